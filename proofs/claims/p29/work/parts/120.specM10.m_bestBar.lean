theorem dX8_bestBar_0 : decode cX8_bestBar 0 = .ok (.aload_n 0, 1) := by decide +kernel
theorem dX8_bestBar_1 : decode cX8_bestBar 1 = .ok (.getfield 87, 3) := by decide +kernel
theorem dX8_bestBar_4 : decode cX8_bestBar 4 = .ok (.iload_n 3, 1) := by decide +kernel
theorem dX8_bestBar_5 : decode cX8_bestBar 5 = .ok (.iaload, 1) := by decide +kernel
theorem dX8_bestBar_6 : decode cX8_bestBar 6 = .ok (.istore 4, 2) := by decide +kernel
theorem dX8_bestBar_8 : decode cX8_bestBar 8 = .ok (.iload 4, 2) := by decide +kernel
theorem dX8_bestBar_10 : decode cX8_bestBar 10 = .ok (.istore 5, 2) := by decide +kernel
theorem dX8_bestBar_12 : decode cX8_bestBar 12 = .ok (.aload_n 0, 1) := by decide +kernel
theorem dX8_bestBar_13 : decode cX8_bestBar 13 = .ok (.iload_n 1, 1) := by decide +kernel
theorem dX8_bestBar_14 : decode cX8_bestBar 14 = .ok (.iload_n 2, 1) := by decide +kernel
theorem dX8_bestBar_15 : decode cX8_bestBar 15 = .ok (.iload_n 3, 1) := by decide +kernel
theorem dX8_bestBar_16 : decode cX8_bestBar 16 = .ok (.invokevirtual 336, 3) := by decide +kernel
theorem dX8_bestBar_19 : decode cX8_bestBar 19 = .ok (.istore 6, 2) := by decide +kernel
theorem dX8_bestBar_21 : decode cX8_bestBar 21 = .ok (.iconst 0, 1) := by decide +kernel
theorem dX8_bestBar_22 : decode cX8_bestBar 22 = .ok (.istore 7, 2) := by decide +kernel
theorem dX8_bestBar_24 : decode cX8_bestBar 24 = .ok (.iload 7, 2) := by decide +kernel
theorem dX8_bestBar_26 : decode cX8_bestBar 26 = .ok (.aload_n 0, 1) := by decide +kernel
theorem dX8_bestBar_27 : decode cX8_bestBar 27 = .ok (.getfield 7, 3) := by decide +kernel
theorem dX8_bestBar_30 : decode cX8_bestBar 30 = .ok (.iload_n 1, 1) := by decide +kernel
theorem dX8_bestBar_31 : decode cX8_bestBar 31 = .ok (.iaload, 1) := by decide +kernel
theorem dX8_bestBar_32 : decode cX8_bestBar 32 = .ok (.if_icmp .gt 58, 3) := by decide +kernel
theorem dX8_bestBar_35 : decode cX8_bestBar 35 = .ok (.aload_n 0, 1) := by decide +kernel
theorem dX8_bestBar_36 : decode cX8_bestBar 36 = .ok (.getfield 87, 3) := by decide +kernel
theorem dX8_bestBar_39 : decode cX8_bestBar 39 = .ok (.iload_n 3, 1) := by decide +kernel
theorem dX8_bestBar_40 : decode cX8_bestBar 40 = .ok (.iload 7, 2) := by decide +kernel
theorem dX8_bestBar_42 : decode cX8_bestBar 42 = .ok (.iastore, 1) := by decide +kernel
theorem dX8_bestBar_43 : decode cX8_bestBar 43 = .ok (.aload_n 0, 1) := by decide +kernel
theorem dX8_bestBar_44 : decode cX8_bestBar 44 = .ok (.iload_n 1, 1) := by decide +kernel
theorem dX8_bestBar_45 : decode cX8_bestBar 45 = .ok (.iload_n 2, 1) := by decide +kernel
theorem dX8_bestBar_46 : decode cX8_bestBar 46 = .ok (.iload_n 3, 1) := by decide +kernel
theorem dX8_bestBar_47 : decode cX8_bestBar 47 = .ok (.invokevirtual 336, 3) := by decide +kernel
theorem dX8_bestBar_50 : decode cX8_bestBar 50 = .ok (.istore 8, 2) := by decide +kernel
theorem dX8_bestBar_52 : decode cX8_bestBar 52 = .ok (.iload 8, 2) := by decide +kernel
theorem dX8_bestBar_54 : decode cX8_bestBar 54 = .ok (.iload 6, 2) := by decide +kernel
theorem dX8_bestBar_56 : decode cX8_bestBar 56 = .ok (.if_icmp .ge 8, 3) := by decide +kernel
theorem dX8_bestBar_59 : decode cX8_bestBar 59 = .ok (.iload 7, 2) := by decide +kernel
theorem dX8_bestBar_61 : decode cX8_bestBar 61 = .ok (.goto 5, 3) := by decide +kernel
theorem dX8_bestBar_64 : decode cX8_bestBar 64 = .ok (.iload 5, 2) := by decide +kernel
theorem dX8_bestBar_66 : decode cX8_bestBar 66 = .ok (.istore 5, 2) := by decide +kernel
theorem dX8_bestBar_68 : decode cX8_bestBar 68 = .ok (.iload 8, 2) := by decide +kernel
theorem dX8_bestBar_70 : decode cX8_bestBar 70 = .ok (.iload 6, 2) := by decide +kernel
theorem dX8_bestBar_72 : decode cX8_bestBar 72 = .ok (.if_icmp .ge 8, 3) := by decide +kernel
theorem dX8_bestBar_75 : decode cX8_bestBar 75 = .ok (.iload 8, 2) := by decide +kernel
theorem dX8_bestBar_77 : decode cX8_bestBar 77 = .ok (.goto 5, 3) := by decide +kernel
theorem dX8_bestBar_80 : decode cX8_bestBar 80 = .ok (.iload 6, 2) := by decide +kernel
theorem dX8_bestBar_82 : decode cX8_bestBar 82 = .ok (.istore 6, 2) := by decide +kernel
theorem dX8_bestBar_84 : decode cX8_bestBar 84 = .ok (.iinc 7 1, 3) := by decide +kernel
theorem dX8_bestBar_87 : decode cX8_bestBar 87 = .ok (.goto (-63), 3) := by decide +kernel
theorem dX8_bestBar_90 : decode cX8_bestBar 90 = .ok (.aload_n 0, 1) := by decide +kernel
theorem dX8_bestBar_91 : decode cX8_bestBar 91 = .ok (.getfield 87, 3) := by decide +kernel
theorem dX8_bestBar_94 : decode cX8_bestBar 94 = .ok (.iload_n 3, 1) := by decide +kernel
theorem dX8_bestBar_95 : decode cX8_bestBar 95 = .ok (.iload 4, 2) := by decide +kernel
theorem dX8_bestBar_97 : decode cX8_bestBar 97 = .ok (.iastore, 1) := by decide +kernel
theorem dX8_bestBar_98 : decode cX8_bestBar 98 = .ok (.iload 5, 2) := by decide +kernel
theorem dX8_bestBar_100 : decode cX8_bestBar 100 = .ok (.ireturn, 1) := by decide +kernel
set_option maxHeartbeats 4000000 in
set_option maxRecDepth 100000 in
theorem m_bestBar (l : Launch) (D : va_G) (k : Nat → ClassId) (st : Nat → Nat) (lo : Nat) (a : Nat → Nat) (tx : Nat) (t0 : Nat) (we : Nat) (rd : Nat) (ru : Nat) (rw : Nat) (ca : Nat) (fp : Int32) (wd : Int64) (nu : Int32) (na : Int32) (ts : Int32) (df : Int32) (db : Int32) (sd : Int32) (dn : Nat → Nat) (se : Nat → Nat) (tm : Nat → Nat) (gs : Nat → Int32) (fprices : Nat → Int32) (fwalks : Nat → Int32) (br : Nat → Nat) (fdoorsOf : Nat → Int32) (sn : Nat) (cn : Nat) (p1 : Int32) (hdn : ∀ j, dn j ≤ 24) (hca : ca ≤ 4) (hbr : ∀ j, br j ≤ 24) (hs : sn < 3) (hcn : cn < 4) (hdv : dvOK fdoorsOf) : CWi l D k st lo yX8_bestBar cX8_bestBar 9 (some .int) ({ frames := 5, cells := 0, slots := 0, locals := 117 }) 0 0 [.ref (a 0), .int (nI sn), .int p1, .int (nI cn)] [((a 0), .inr (8, (fX8 a (nI tx) fp (nI t0) wd (nI we) nu na (nI rd) ts (nI ru) (nI rw) (nI ca) df db sd))), (aI k (a 1) 3 (nF dn)), (aI k (a 4) 27 (sg se tm gs)), (aI k (a 3) 72 fprices), (aI k (a 36) 4 fwalks), (aI k (a 37) 4 (nF br)), (aI k (a 40) 4 fdoorsOf)] (fun (r : Int32) (u : (Nat → Nat) × (Nat → Int32) × Nat) => match u with | (br_, fdoorsOf_, er) => r = nI er ∧ er ≤ 24 ∧ (∀ j, br_ j ≤ 24) ∧ dvOK fdoorsOf_) (fun (u : (Nat → Nat) × (Nat → Int32) × Nat) => match u with | (br_, fdoorsOf_, er) => [((a 0), .inr (8, (fX8 a (nI tx) fp (nI t0) wd (nI we) nu na (nI rd) ts (nI ru) (nI rw) (nI ca) df db sd))), (aI k (a 1) 3 (nF dn)), (aI k (a 4) 27 (sg se tm gs)), (aI k (a 3) 72 fprices), (aI k (a 36) 4 fwalks), (aI k (a 37) 4 (nF br_)), (aI k (a 40) 4 fdoorsOf_)]) := by
  intro sz
  refine Met.ofW (cc := cX8_bestBar) (maxL := 9) (ret := (some .int)) (by decide) rfl ?_
  intro p e s m args below meth c s₁ B hml hv
  obtain ⟨rfl, hsz, hlo, hP, hK, hDL, hZ⟩ := hv
  have hx := B.exec
  have hb := B.bytes
  have hr := B.returns
  have hts := WS_ts B.pre
  have hown : s.vm.findClass RX8 = some m.cls := findClass_of_methodNamed B.named
  have hlocks := B.notSynchronized
  subst hsz
  have hD := hDL.self (sz := s.heap.size)
  have hAlo := A_lo hDL hlo
  generalize hAe : va_A [((a 0), .inr (8, (fX8 a (nI tx) fp (nI t0) wd (nI we) nu na (nI rd) ts (nI ru) (nI rw) (nI ca) df db sd))), (aI k (a 1) 3 (nF dn)), (aI k (a 4) 27 (sg se tm gs)), (aI k (a 3) 72 fprices), (aI k (a 36) 4 fwalks), (aI k (a 37) 4 (nF br)), (aI k (a 40) 4 fdoorsOf)] s.heap.size = A at hD hAlo ⊢
  have hA : ∀ q : Nat, s.heap.size ≤ q → A q := fun q h => by rw [← hAe]; exact Or.inr h
  have hS : va_S A s.heap s.heap [] := va_S.rf
  have hl := lv_entry ([.ref (a 0), .int (nI sn), .int p1, .int (nI cn)]) (n := 9) (Nat.le_of_ble_eq_true rfl)
  rw [lg_entry_eq]
  generalize (lg_sl ([.ref (a 0), .int (nI sn), .int p1, .int (nI cn)]) ++ List.replicate (9 - (lg_sl ([.ref (a 0), .int (nI sn), .int p1, .int (nI cn)])).length) Slot.unset).toArray = ls at hl ⊢
  have hl : lv_has ls 9 [(0, .ref (a 0)), (1, .int (nI sn)), (2, .int p1), (3, .int (nI cn))] := hl
  have hd_9 := hdn sn
  refine lv_aload_n hx hb dX8_bestBar_0 rfl (lv_at hl 0 rfl) ?_
  refine va_get (D := D) (ci := 8) (v := .ref (a 37)) (C := RX8) (T := TX8) (N := 44) hx hb hts inX8 hown hK hP 0 rfl rfl 36 (by decide) (hts _ tw_1009) (fun _ h9 => h9) rfl dX8_bestBar_1 ?_
  refine lv_iload_n hx hb dX8_bestBar_4 rfl (lv_at hl 3 rfl) ?_
  refine va_iald hx hb hK hP 5 1 rfl rfl (vp_in_nI (by omega) (by decide)) dX8_bestBar_5 ?_
  have hq_1 := hbr cn
  refine lv_ti (y := (nI (br cn))) (by rw [nI_clamp (by omega)]; rfl) ?_
  refine lv_istore (lv' := [(4, .int (nI (br cn))), (0, .ref (a 0)), (1, .int (nI sn)), (2, .int p1), (3, .int (nI cn))]) hx hb dX8_bestBar_6 hl (by decide) rfl (fun ls hl => ?_)
  refine lv_iload hx hb dX8_bestBar_8 (lv_at hl 0 rfl) ?_
  refine lv_istore (lv' := [(5, .int (nI (br cn))), (4, .int (nI (br cn))), (0, .ref (a 0)), (1, .int (nI sn)), (2, .int p1), (3, .int (nI cn))]) hx hb dX8_bestBar_10 hl (by decide) rfl (fun ls hl => ?_)
  refine lv_aload_n hx hb dX8_bestBar_12 rfl (lv_at hl 2 rfl) ?_
  refine lv_iload_n hx hb dX8_bestBar_13 rfl (lv_at hl 3 rfl) ?_
  refine lv_iload_n hx hb dX8_bestBar_14 rfl (lv_at hl 4 rfl) ?_
  refine lv_iload_n hx hb dX8_bestBar_15 rfl (lv_at hl 5 rfl) ?_
  refine rw_i (D := D) (wr := []) (va_runV (As := [.int (nI sn), .int p1, .int (nI cn)]) (rest := []) ⟨hx, hb, hml, hown, hts⟩ ((m_costOf l D k st lo a tx t0 we rd ru rw ca fp wd nu na ts df db sd dn se tm gs fprices fwalks br fdoorsOf sn cn p1 hdn (by first | assumption | omega) hbr (by first | assumption | omega) (by first | assumption | omega) hdv) s.heap.size) (cwV 3 hts (gV tw_1394 tw_1396 tw_65 tw_87 tw_1397) rfl rfl rfl (by decide +kernel) ⟨Nat.le_of_ble_eq_true rfl, Nat.le_of_ble_eq_true rfl⟩) (pV hS hAlo hlo hP hK (va_Dlo hD hAlo) hZ [0, 1, 2, 3, 4, 5, 6] (by decide) rfl (ci := 8) (q := (RX8, TX8, 44)) (q0 := 0) rfl rfl) rfl rfl hl.1 rfl (lv_room (Nat.le_of_ble_eq_true rfl)) dX8_bestBar_16 ⟨Nat.le_of_ble_eq_true rfl, Nat.le_of_ble_eq_true rfl⟩) hS hA hP hD [0, 1, 2, 3, 4, 5, 6] [] rfl rfl (by decide) (by decide) (fun r_2 u H locs hw_2 hP hD hS => ?_)
  obtain ⟨fdoorsOf__2, rfl⟩ : ∃ z, z = u := ⟨_, rfl⟩
  replace hP : va_P D classes [((a 0), .inr (8, (fX8 a (nI tx) fp (nI t0) wd (nI we) nu na (nI rd) ts (nI ru) (nI rw) (nI ca) df db sd))), (aI k (a 1) 3 (nF dn)), (aI k (a 4) 27 (sg se tm gs)), (aI k (a 3) 72 fprices), (aI k (a 36) 4 fwalks), (aI k (a 37) 4 (nF br)), (aI k (a 40) 4 fdoorsOf__2)] H := hP
  replace hD : va_D A [((a 0), .inr (8, (fX8 a (nI tx) fp (nI t0) wd (nI we) nu na (nI rd) ts (nI ru) (nI rw) (nI ca) df db sd))), (aI k (a 1) 3 (nF dn)), (aI k (a 4) 27 (sg se tm gs)), (aI k (a 3) 72 fprices), (aI k (a 36) 4 fwalks), (aI k (a 37) 4 (nF br)), (aI k (a 40) 4 fdoorsOf__2)] := hD
  try dsimp only at hw_2
  refine lv_istore (lv' := [(6, .int r_2), (5, .int (nI (br cn))), (4, .int (nI (br cn))), (0, .ref (a 0)), (1, .int (nI sn)), (2, .int p1), (3, .int (nI cn))]) hx hb dX8_bestBar_19 hl (by decide) rfl (fun ls hl => ?_)
  refine lv_iconst (v := 0) hx hb dX8_bestBar_21 (by decide) ?_
  refine lv_istore (lv' := [(7, .int 0), (6, .int r_2), (5, .int (nI (br cn))), (4, .int (nI (br cn))), (0, .ref (a 0)), (1, .int (nI sn)), (2, .int p1), (3, .int (nI cn))]) hx hb dX8_bestBar_22 hl (by decide) rfl (fun ls hl => ?_)
  refine W_loop (σ := Nat × Nat × Int32 × (Nat → Nat) × (Nat → Int32)) (fun (n_ : Nat) (x_ : Nat × Nat × Int32 × (Nat → Nat) × (Nat → Int32)) (H : Heap) (locs : List Loc) (ls : Array Slot) => match x_ with | (bb_3, be_3, le_3, b2_3, fd_3) => n_ = 26 - bb_3 ∧ ((bb_3 ≤ 25 ∧ be_3 ≤ 24) ∧ (∀ j, b2_3 j ≤ 24) ∧ dvOK fd_3) ∧ va_P D classes [((a 0), .inr (8, (fX8 a (nI tx) fp (nI t0) wd (nI we) nu na (nI rd) ts (nI ru) (nI rw) (nI ca) df db sd))), (aI k (a 1) 3 (nF dn)), (aI k (a 4) 27 (sg se tm gs)), (aI k (a 3) 72 fprices), (aI k (a 36) 4 fwalks), (aI k (a 37) 4 (nF b2_3)), (aI k (a 40) 4 fd_3)] H ∧ va_D A [((a 0), .inr (8, (fX8 a (nI tx) fp (nI t0) wd (nI we) nu na (nI rd) ts (nI ru) (nI rw) (nI ca) df db sd))), (aI k (a 1) 3 (nF dn)), (aI k (a 4) 27 (sg se tm gs)), (aI k (a 3) 72 fprices), (aI k (a 36) 4 fwalks), (aI k (a 37) 4 (nF b2_3)), (aI k (a 40) 4 fd_3)] ∧ va_S A s.heap H locs ∧ lv_has ls 9 [(7, .int (nI bb_3)), (6, .int le_3), (5, .int (nI be_3)), (4, .int (nI (br cn))), (0, .ref (a 0)), (1, .int (nI sn)), (2, .int p1), (3, .int (nI cn))]) (fun n_3 x_3 H locs ls hI ih_3 => ?_) _ (0, br cn, r_2, br, fdoorsOf__2) ⟨rfl, ⟨by omega, hbr, hw_2⟩, hP, hD, hS, (lv_sub hl [0, 1, 2, 3, 4, 5, 6, 7] rfl)⟩
  obtain ⟨bb_3, be_3, le_3, b2_3, fd_3⟩ := x_3
  obtain ⟨hm_3, hv_3, hP, hD, hS, hl⟩ := hI
  subst hm_3
  have hbl_3 := hv_3.2.1
  have hdvl_3 := hv_3.2.2
  refine lv_iload hx hb dX8_bestBar_24 (lv_at hl 0 rfl) ?_
  refine lv_aload_n hx hb dX8_bestBar_26 rfl (lv_at hl 4 rfl) ?_
  refine va_get (D := D) (ci := 8) (v := .ref (a 1)) (C := RX8) (T := TX8) (N := 44) hx hb hts inX8 hown hK hP 0 rfl rfl 0 (by decide) (hts _ tw_973) (fun _ h9 => h9) rfl dX8_bestBar_27 ?_
  refine lv_iload_n hx hb dX8_bestBar_30 rfl (lv_at hl 5 rfl) ?_
  refine va_iald hx hb hK hP 1 1 rfl rfl (vp_in_nI (by omega) (by decide)) dX8_bestBar_31 ?_
  refine lv_ti (y := (nI (dn sn))) (by rw [nI_clamp (by omega)]; rfl) ?_
  refine lv_icmp_gt (tgt := 90) hx hb dX8_bestBar_32 (by decide) (fun c_4 => ?_) (fun c_4 => ?_)
  · have c_4 := (nI_ltI (a := (dn sn)) (b := bb_3) (by omega) (by omega)).mp c_4
    refine lv_aload_n hx hb dX8_bestBar_90 rfl (lv_at hl 4 rfl) ?_
    refine va_get (D := D) (ci := 8) (v := .ref (a 37)) (C := RX8) (T := TX8) (N := 44) hx hb hts inX8 hown hK hP 0 rfl rfl 36 (by decide) (hts _ tw_1009) (fun _ h9 => h9) rfl dX8_bestBar_91 ?_
    refine lv_iload_n hx hb dX8_bestBar_94 rfl (lv_at hl 7 rfl) ?_
    refine lv_iload hx hb dX8_bestBar_95 (lv_at hl 3 rfl) ?_
    refine va_iast hx hb hK hP hD hS 5 1 rfl rfl (vp_in_nI (by omega) (by decide)) dX8_bestBar_97 (fun H locs hP hD hS => ?_)
    replace hP : va_P D classes [((a 0), .inr (8, (fX8 a (nI tx) fp (nI t0) wd (nI we) nu na (nI rd) ts (nI ru) (nI rw) (nI ca) df db sd))), (aI k (a 1) 3 (nF dn)), (aI k (a 4) 27 (sg se tm gs)), (aI k (a 3) 72 fprices), (aI k (a 36) 4 fwalks), (aI k (a 37) 4 (upd (nF b2_3) (Int32.toNatClampNeg (nI cn)) (nI (br cn)))), (aI k (a 40) 4 fd_3)] H := hP
    replace hD : va_D A [((a 0), .inr (8, (fX8 a (nI tx) fp (nI t0) wd (nI we) nu na (nI rd) ts (nI ru) (nI rw) (nI ca) df db sd))), (aI k (a 1) 3 (nF dn)), (aI k (a 4) 27 (sg se tm gs)), (aI k (a 3) 72 fprices), (aI k (a 36) 4 fwalks), (aI k (a 37) 4 (upd (nF b2_3) (Int32.toNatClampNeg (nI cn)) (nI (br cn)))), (aI k (a 40) 4 fd_3)] := hD
    rw [nI_clamp (n := cn) (by omega)] at hP hD
    rw [show upd (nF b2_3) cn (nI (br cn)) = nF (fun j => if j = cn then br cn else b2_3 j) from nF_upd _ _ _] at hP hD
    obtain ⟨d_6, hd_6⟩ : ∃ z : Nat → Nat, z = (fun j => if j = cn then br cn else b2_3 j) := ⟨_, rfl⟩
    rw [← hd_6] at hP hD
    have hbb_6 : ∀ j, d_6 j ≤ 24 := by rw [hd_6]; exact up_le hbl_3 (by omega)
    refine lv_iload hx hb dX8_bestBar_98 (lv_at hl 2 rfl) ?_
    have hP9 := hP.sub (ws' := [((a 0), .inr (8, (fX8 a (nI tx) fp (nI t0) wd (nI we) nu na (nI rd) ts (nI ru) (nI rw) (nI ca) df db sd))), (aI k (a 1) 3 (nF dn)), (aI k (a 4) 27 (sg se tm gs)), (aI k (a 3) 72 fprices), (aI k (a 36) 4 fwalks), (aI k (a 37) 4 (nF d_6)), (aI k (a 40) 4 fd_3)]) [0, 1, 2, 3, 4, 5, 6] rfl
    have hD9 := hD.sub (ws' := [((a 0), .inr (8, (fX8 a (nI tx) fp (nI t0) wd (nI we) nu na (nI rd) ts (nI ru) (nI rw) (nI ca) df db sd))), (aI k (a 1) 3 (nF dn)), (aI k (a 4) 27 (sg se tm gs)), (aI k (a 3) 72 fprices), (aI k (a 36) 4 fwalks), (aI k (a 37) 4 (nF d_6)), (aI k (a 40) 4 fd_3)]) [0, 1, 2, 3, 4, 5, 6] (by decide) rfl
    exact W.iret (v := (nI be_3)) hx hb hr (fun t ht hW => ⟨⟨(nI be_3), (d_6, fd_3, be_3), rfl, ⟨rfl, by omega, hbb_6, hdvl_3⟩, by rw [ht]; exact hP9, hD9⟩, hS.F ht⟩) hS.2.2 dX8_bestBar_100
  · have c_4 : ¬ ((dn sn) < bb_3) := fun h => c_4 ((nI_ltI (a := (dn sn)) (b := bb_3) (by omega) (by omega)).mpr h)
    refine lv_aload_n hx hb dX8_bestBar_35 rfl (lv_at hl 4 rfl) ?_
    refine va_get (D := D) (ci := 8) (v := .ref (a 37)) (C := RX8) (T := TX8) (N := 44) hx hb hts inX8 hown hK hP 0 rfl rfl 36 (by decide) (hts _ tw_1009) (fun _ h9 => h9) rfl dX8_bestBar_36 ?_
    refine lv_iload_n hx hb dX8_bestBar_39 rfl (lv_at hl 7 rfl) ?_
    refine lv_iload hx hb dX8_bestBar_40 (lv_at hl 0 rfl) ?_
    refine va_iast hx hb hK hP hD hS 5 1 rfl rfl (vp_in_nI (by omega) (by decide)) dX8_bestBar_42 (fun H locs hP hD hS => ?_)
    replace hP : va_P D classes [((a 0), .inr (8, (fX8 a (nI tx) fp (nI t0) wd (nI we) nu na (nI rd) ts (nI ru) (nI rw) (nI ca) df db sd))), (aI k (a 1) 3 (nF dn)), (aI k (a 4) 27 (sg se tm gs)), (aI k (a 3) 72 fprices), (aI k (a 36) 4 fwalks), (aI k (a 37) 4 (upd (nF b2_3) (Int32.toNatClampNeg (nI cn)) (nI bb_3))), (aI k (a 40) 4 fd_3)] H := hP
    replace hD : va_D A [((a 0), .inr (8, (fX8 a (nI tx) fp (nI t0) wd (nI we) nu na (nI rd) ts (nI ru) (nI rw) (nI ca) df db sd))), (aI k (a 1) 3 (nF dn)), (aI k (a 4) 27 (sg se tm gs)), (aI k (a 3) 72 fprices), (aI k (a 36) 4 fwalks), (aI k (a 37) 4 (upd (nF b2_3) (Int32.toNatClampNeg (nI cn)) (nI bb_3))), (aI k (a 40) 4 fd_3)] := hD
    rw [nI_clamp (n := cn) (by omega)] at hP hD
    rw [show upd (nF b2_3) cn (nI bb_3) = nF (fun j => if j = cn then bb_3 else b2_3 j) from nF_upd _ _ _] at hP hD
    obtain ⟨d_8, hd_8⟩ : ∃ z : Nat → Nat, z = (fun j => if j = cn then bb_3 else b2_3 j) := ⟨_, rfl⟩
    rw [← hd_8] at hP hD
    have hbb_8 : ∀ j, d_8 j ≤ 24 := by rw [hd_8]; exact up_le hbl_3 (by omega)
    refine lv_aload_n hx hb dX8_bestBar_43 rfl (lv_at hl 4 rfl) ?_
    refine lv_iload_n hx hb dX8_bestBar_44 rfl (lv_at hl 5 rfl) ?_
    refine lv_iload_n hx hb dX8_bestBar_45 rfl (lv_at hl 6 rfl) ?_
    refine lv_iload_n hx hb dX8_bestBar_46 rfl (lv_at hl 7 rfl) ?_
    refine rw_i (D := D) (wr := []) (va_runV (As := [.int (nI sn), .int p1, .int (nI cn)]) (rest := []) ⟨hx, hb, hml, hown, hts⟩ ((m_costOf l D k st lo a tx t0 we rd ru rw ca fp wd nu na ts df db sd dn se tm gs fprices fwalks d_8 fd_3 sn cn p1 hdn (by first | assumption | omega) hbb_8 (by first | assumption | omega) (by first | assumption | omega) hdvl_3) H.size) (cwV 3 hts (gV tw_1394 tw_1396 tw_65 tw_87 tw_1397) rfl rfl rfl (by decide +kernel) ⟨Nat.le_of_ble_eq_true rfl, Nat.le_of_ble_eq_true rfl⟩) (pV hS hAlo hlo hP hK (va_Dlo hD hAlo) hZ [0, 1, 2, 3, 4, 5, 6] (by decide) rfl (ci := 8) (q := (RX8, TX8, 44)) (q0 := 0) rfl rfl) rfl rfl hl.1 rfl (lv_room (Nat.le_of_ble_eq_true rfl)) dX8_bestBar_47 ⟨Nat.le_of_ble_eq_true rfl, Nat.le_of_ble_eq_true rfl⟩) hS hA hP hD [0, 1, 2, 3, 4, 5, 6] [] rfl rfl (by decide) (by decide) (fun r_9 u H locs hw_9 hP hD hS => ?_)
    obtain ⟨fdoorsOf__9, rfl⟩ : ∃ z, z = u := ⟨_, rfl⟩
    replace hP : va_P D classes [((a 0), .inr (8, (fX8 a (nI tx) fp (nI t0) wd (nI we) nu na (nI rd) ts (nI ru) (nI rw) (nI ca) df db sd))), (aI k (a 1) 3 (nF dn)), (aI k (a 4) 27 (sg se tm gs)), (aI k (a 3) 72 fprices), (aI k (a 36) 4 fwalks), (aI k (a 37) 4 (nF d_8)), (aI k (a 40) 4 fdoorsOf__9)] H := hP
    replace hD : va_D A [((a 0), .inr (8, (fX8 a (nI tx) fp (nI t0) wd (nI we) nu na (nI rd) ts (nI ru) (nI rw) (nI ca) df db sd))), (aI k (a 1) 3 (nF dn)), (aI k (a 4) 27 (sg se tm gs)), (aI k (a 3) 72 fprices), (aI k (a 36) 4 fwalks), (aI k (a 37) 4 (nF d_8)), (aI k (a 40) 4 fdoorsOf__9)] := hD
    try dsimp only at hw_9
    refine lv_istore (lv' := [(8, .int r_9), (7, .int (nI bb_3)), (6, .int le_3), (5, .int (nI be_3)), (4, .int (nI (br cn))), (0, .ref (a 0)), (1, .int (nI sn)), (2, .int p1), (3, .int (nI cn))]) hx hb dX8_bestBar_50 hl (by decide) rfl (fun ls hl => ?_)
    refine lv_iload hx hb dX8_bestBar_52 (lv_at hl 0 rfl) ?_
    refine lv_iload hx hb dX8_bestBar_54 (lv_at hl 2 rfl) ?_
    refine lv_icmp_ge (tgt := 64) hx hb dX8_bestBar_56 (by decide) (fun c_10 => ?_) (fun c_10 => ?_)
    · refine lv_iload hx hb dX8_bestBar_64 (lv_at hl 3 rfl) ?_
      refine lv_istore (lv' := [(5, .int (nI be_3)), (8, .int r_9), (7, .int (nI bb_3)), (6, .int le_3), (4, .int (nI (br cn))), (0, .ref (a 0)), (1, .int (nI sn)), (2, .int p1), (3, .int (nI cn))]) hx hb dX8_bestBar_66 hl (by decide) rfl (fun ls hl => ?_)
      refine lv_iload hx hb dX8_bestBar_68 (lv_at hl 1 rfl) ?_
      refine lv_iload hx hb dX8_bestBar_70 (lv_at hl 3 rfl) ?_
      refine lv_icmp_ge (tgt := 80) hx hb dX8_bestBar_72 (by decide) (fun c_11 => ?_) (fun c_11 => ?_)
      · refine lv_iload hx hb dX8_bestBar_80 (lv_at hl 3 rfl) ?_
        refine lv_istore (lv' := [(6, .int le_3), (5, .int (nI be_3)), (8, .int r_9), (7, .int (nI bb_3)), (4, .int (nI (br cn))), (0, .ref (a 0)), (1, .int (nI sn)), (2, .int p1), (3, .int (nI cn))]) hx hb dX8_bestBar_82 hl (by decide) rfl (fun ls hl => ?_)
        refine lv_iinc (v := (nI (bb_3 + 1))) (lv' := [(7, .int (nI (bb_3 + 1))), (6, .int le_3), (5, .int (nI be_3)), (8, .int r_9), (4, .int (nI (br cn))), (0, .ref (a 0)), (1, .int (nI sn)), (2, .int p1), (3, .int (nI cn))]) hx hb dX8_bestBar_84 hl (k := 3) rfl (nI_add bb_3 1) (by decide) rfl (fun ls hl => ?_)
        refine lv_goto (tgt := 24) hx hb dX8_bestBar_87 (by decide) ?_
        exact ih_3 _ (bb_3 + 1, be_3, le_3, d_8, fdoorsOf__9) _ _ _ (by omega) ⟨rfl, ⟨by omega, hbb_8, hw_9⟩, hP, hD, hS, (lv_sub hl [0, 1, 2, 4, 5, 6, 7, 8] rfl)⟩
      · refine lv_iload hx hb dX8_bestBar_75 (lv_at hl 1 rfl) ?_
        refine lv_goto (tgt := 82) hx hb dX8_bestBar_77 (by decide) ?_
        refine lv_istore (lv' := [(6, .int r_9), (5, .int (nI be_3)), (8, .int r_9), (7, .int (nI bb_3)), (4, .int (nI (br cn))), (0, .ref (a 0)), (1, .int (nI sn)), (2, .int p1), (3, .int (nI cn))]) hx hb dX8_bestBar_82 hl (by decide) rfl (fun ls hl => ?_)
        refine lv_iinc (v := (nI (bb_3 + 1))) (lv' := [(7, .int (nI (bb_3 + 1))), (6, .int r_9), (5, .int (nI be_3)), (8, .int r_9), (4, .int (nI (br cn))), (0, .ref (a 0)), (1, .int (nI sn)), (2, .int p1), (3, .int (nI cn))]) hx hb dX8_bestBar_84 hl (k := 3) rfl (nI_add bb_3 1) (by decide) rfl (fun ls hl => ?_)
        refine lv_goto (tgt := 24) hx hb dX8_bestBar_87 (by decide) ?_
        exact ih_3 _ (bb_3 + 1, be_3, r_9, d_8, fdoorsOf__9) _ _ _ (by omega) ⟨rfl, ⟨by omega, hbb_8, hw_9⟩, hP, hD, hS, (lv_sub hl [0, 1, 2, 4, 5, 6, 7, 8] rfl)⟩
    · refine lv_iload hx hb dX8_bestBar_59 (lv_at hl 1 rfl) ?_
      refine lv_goto (tgt := 66) hx hb dX8_bestBar_61 (by decide) ?_
      refine lv_istore (lv' := [(5, .int (nI bb_3)), (8, .int r_9), (7, .int (nI bb_3)), (6, .int le_3), (4, .int (nI (br cn))), (0, .ref (a 0)), (1, .int (nI sn)), (2, .int p1), (3, .int (nI cn))]) hx hb dX8_bestBar_66 hl (by decide) rfl (fun ls hl => ?_)
      refine lv_iload hx hb dX8_bestBar_68 (lv_at hl 1 rfl) ?_
      refine lv_iload hx hb dX8_bestBar_70 (lv_at hl 3 rfl) ?_
      refine lv_icmp_ge (tgt := 80) hx hb dX8_bestBar_72 (by decide) (fun c_12 => ?_) (fun c_12 => ?_)
      · refine lv_iload hx hb dX8_bestBar_80 (lv_at hl 3 rfl) ?_
        refine lv_istore (lv' := [(6, .int le_3), (5, .int (nI bb_3)), (8, .int r_9), (7, .int (nI bb_3)), (4, .int (nI (br cn))), (0, .ref (a 0)), (1, .int (nI sn)), (2, .int p1), (3, .int (nI cn))]) hx hb dX8_bestBar_82 hl (by decide) rfl (fun ls hl => ?_)
        refine lv_iinc (v := (nI (bb_3 + 1))) (lv' := [(7, .int (nI (bb_3 + 1))), (6, .int le_3), (5, .int (nI bb_3)), (8, .int r_9), (4, .int (nI (br cn))), (0, .ref (a 0)), (1, .int (nI sn)), (2, .int p1), (3, .int (nI cn))]) hx hb dX8_bestBar_84 hl (k := 3) rfl (nI_add bb_3 1) (by decide) rfl (fun ls hl => ?_)
        refine lv_goto (tgt := 24) hx hb dX8_bestBar_87 (by decide) ?_
        exact ih_3 _ (bb_3 + 1, bb_3, le_3, d_8, fdoorsOf__9) _ _ _ (by omega) ⟨rfl, ⟨by omega, hbb_8, hw_9⟩, hP, hD, hS, (lv_sub hl [0, 1, 2, 4, 5, 6, 7, 8] rfl)⟩
      · refine lv_iload hx hb dX8_bestBar_75 (lv_at hl 1 rfl) ?_
        refine lv_goto (tgt := 82) hx hb dX8_bestBar_77 (by decide) ?_
        refine lv_istore (lv' := [(6, .int r_9), (5, .int (nI bb_3)), (8, .int r_9), (7, .int (nI bb_3)), (4, .int (nI (br cn))), (0, .ref (a 0)), (1, .int (nI sn)), (2, .int p1), (3, .int (nI cn))]) hx hb dX8_bestBar_82 hl (by decide) rfl (fun ls hl => ?_)
        refine lv_iinc (v := (nI (bb_3 + 1))) (lv' := [(7, .int (nI (bb_3 + 1))), (6, .int r_9), (5, .int (nI bb_3)), (8, .int r_9), (4, .int (nI (br cn))), (0, .ref (a 0)), (1, .int (nI sn)), (2, .int p1), (3, .int (nI cn))]) hx hb dX8_bestBar_84 hl (k := 3) rfl (nI_add bb_3 1) (by decide) rfl (fun ls hl => ?_)
        refine lv_goto (tgt := 24) hx hb dX8_bestBar_87 (by decide) ?_
        exact ih_3 _ (bb_3 + 1, bb_3, r_9, d_8, fdoorsOf__9) _ _ _ (by omega) ⟨rfl, ⟨by omega, hbb_8, hw_9⟩, hP, hD, hS, (lv_sub hl [0, 1, 2, 4, 5, 6, 7, 8] rfl)⟩

theorem dX8_turnAll_0 : decode cX8_turnAll 0 = .ok (.iconst 0, 1) := by decide +kernel
theorem dX8_turnAll_1 : decode cX8_turnAll 1 = .ok (.istore_n 3, 1) := by decide +kernel
theorem dX8_turnAll_2 : decode cX8_turnAll 2 = .ok (.iload_n 3, 1) := by decide +kernel
theorem dX8_turnAll_3 : decode cX8_turnAll 3 = .ok (.bipush 50, 2) := by decide +kernel
theorem dX8_turnAll_5 : decode cX8_turnAll 5 = .ok (.if_icmp .ge 80, 3) := by decide +kernel
theorem dX8_turnAll_8 : decode cX8_turnAll 8 = .ok (.iconst 0, 1) := by decide +kernel
theorem dX8_turnAll_9 : decode cX8_turnAll 9 = .ok (.istore 4, 2) := by decide +kernel
theorem dX8_turnAll_11 : decode cX8_turnAll 11 = .ok (.iconst 0, 1) := by decide +kernel
theorem dX8_turnAll_12 : decode cX8_turnAll 12 = .ok (.istore 5, 2) := by decide +kernel
theorem dX8_turnAll_14 : decode cX8_turnAll 14 = .ok (.iload 5, 2) := by decide +kernel
theorem dX8_turnAll_16 : decode cX8_turnAll 16 = .ok (.aload_n 0, 1) := by decide +kernel
theorem dX8_turnAll_17 : decode cX8_turnAll 17 = .ok (.getfield 315, 3) := by decide +kernel
theorem dX8_turnAll_20 : decode cX8_turnAll 20 = .ok (.if_icmp .ge 52, 3) := by decide +kernel
theorem dX8_turnAll_23 : decode cX8_turnAll 23 = .ok (.aload_n 0, 1) := by decide +kernel
theorem dX8_turnAll_24 : decode cX8_turnAll 24 = .ok (.iload_n 1, 1) := by decide +kernel
theorem dX8_turnAll_25 : decode cX8_turnAll 25 = .ok (.iload_n 2, 1) := by decide +kernel
theorem dX8_turnAll_26 : decode cX8_turnAll 26 = .ok (.iload 5, 2) := by decide +kernel
theorem dX8_turnAll_28 : decode cX8_turnAll 28 = .ok (.invokevirtual 339, 3) := by decide +kernel
theorem dX8_turnAll_31 : decode cX8_turnAll 31 = .ok (.istore 6, 2) := by decide +kernel
theorem dX8_turnAll_33 : decode cX8_turnAll 33 = .ok (.iload 4, 2) := by decide +kernel
theorem dX8_turnAll_35 : decode cX8_turnAll 35 = .ok (.ifCond .ne 15, 3) := by decide +kernel
theorem dX8_turnAll_38 : decode cX8_turnAll 38 = .ok (.iload 6, 2) := by decide +kernel
theorem dX8_turnAll_40 : decode cX8_turnAll 40 = .ok (.aload_n 0, 1) := by decide +kernel
theorem dX8_turnAll_41 : decode cX8_turnAll 41 = .ok (.getfield 87, 3) := by decide +kernel
theorem dX8_turnAll_44 : decode cX8_turnAll 44 = .ok (.iload 5, 2) := by decide +kernel
theorem dX8_turnAll_46 : decode cX8_turnAll 46 = .ok (.iaload, 1) := by decide +kernel
theorem dX8_turnAll_47 : decode cX8_turnAll 47 = .ok (.if_icmp .eq 7, 3) := by decide +kernel
theorem dX8_turnAll_50 : decode cX8_turnAll 50 = .ok (.iconst 1, 1) := by decide +kernel
theorem dX8_turnAll_51 : decode cX8_turnAll 51 = .ok (.goto 4, 3) := by decide +kernel
theorem dX8_turnAll_54 : decode cX8_turnAll 54 = .ok (.iconst 0, 1) := by decide +kernel
theorem dX8_turnAll_55 : decode cX8_turnAll 55 = .ok (.istore 4, 2) := by decide +kernel
theorem dX8_turnAll_57 : decode cX8_turnAll 57 = .ok (.aload_n 0, 1) := by decide +kernel
theorem dX8_turnAll_58 : decode cX8_turnAll 58 = .ok (.getfield 87, 3) := by decide +kernel
theorem dX8_turnAll_61 : decode cX8_turnAll 61 = .ok (.iload 5, 2) := by decide +kernel
theorem dX8_turnAll_63 : decode cX8_turnAll 63 = .ok (.iload 6, 2) := by decide +kernel
theorem dX8_turnAll_65 : decode cX8_turnAll 65 = .ok (.iastore, 1) := by decide +kernel
theorem dX8_turnAll_66 : decode cX8_turnAll 66 = .ok (.iinc 5 1, 3) := by decide +kernel
theorem dX8_turnAll_69 : decode cX8_turnAll 69 = .ok (.goto (-55), 3) := by decide +kernel
theorem dX8_turnAll_72 : decode cX8_turnAll 72 = .ok (.iload 4, 2) := by decide +kernel
theorem dX8_turnAll_74 : decode cX8_turnAll 74 = .ok (.ifCond .ne 5, 3) := by decide +kernel
theorem dX8_turnAll_77 : decode cX8_turnAll 77 = .ok (.iload_n 3, 1) := by decide +kernel
theorem dX8_turnAll_78 : decode cX8_turnAll 78 = .ok (.ireturn, 1) := by decide +kernel
theorem dX8_turnAll_79 : decode cX8_turnAll 79 = .ok (.iinc 3 1, 3) := by decide +kernel
theorem dX8_turnAll_82 : decode cX8_turnAll 82 = .ok (.goto (-80), 3) := by decide +kernel
theorem dX8_turnAll_85 : decode cX8_turnAll 85 = .ok (.iconst (-1), 1) := by decide +kernel
theorem dX8_turnAll_86 : decode cX8_turnAll 86 = .ok (.ireturn, 1) := by decide +kernel
set_option maxHeartbeats 4000000 in
set_option maxRecDepth 100000 in
theorem m_turnAll (l : Launch) (D : va_G) (k : Nat → ClassId) (st : Nat → Nat) (lo : Nat) (a : Nat → Nat) (tx : Nat) (t0 : Nat) (we : Nat) (rd : Nat) (ru : Nat) (rw : Nat) (ca : Nat) (fp : Int32) (wd : Int64) (nu : Int32) (na : Int32) (ts : Int32) (df : Int32) (db : Int32) (sd : Int32) (dn : Nat → Nat) (se : Nat → Nat) (tm : Nat → Nat) (gs : Nat → Int32) (fprices : Nat → Int32) (fwalks : Nat → Int32) (br : Nat → Nat) (fdoorsOf : Nat → Int32) (sn : Nat) (p1 : Int32) (hdn : ∀ j, dn j ≤ 24) (hca : ca ≤ 4) (hbr : ∀ j, br j ≤ 24) (hs : sn < 3) (hdv : dvOK fdoorsOf) : CWi l D k st lo yX8_turnAll cX8_turnAll 7 (some .int) ({ frames := 6, cells := 0, slots := 0, locals := 145 }) 0 0 [.ref (a 0), .int (nI sn), .int p1] [((a 0), .inr (8, (fX8 a (nI tx) fp (nI t0) wd (nI we) nu na (nI rd) ts (nI ru) (nI rw) (nI ca) df db sd))), (aI k (a 1) 3 (nF dn)), (aI k (a 4) 27 (sg se tm gs)), (aI k (a 3) 72 fprices), (aI k (a 36) 4 fwalks), (aI k (a 37) 4 (nF br)), (aI k (a 40) 4 fdoorsOf)] (fun (r : Int32) (u : (Nat → Nat) × (Nat → Int32)) => match u with | (br_, fdoorsOf_) => (∀ j, br_ j ≤ 24) ∧ dvOK fdoorsOf_) (fun (u : (Nat → Nat) × (Nat → Int32)) => match u with | (br_, fdoorsOf_) => [((a 0), .inr (8, (fX8 a (nI tx) fp (nI t0) wd (nI we) nu na (nI rd) ts (nI ru) (nI rw) (nI ca) df db sd))), (aI k (a 1) 3 (nF dn)), (aI k (a 4) 27 (sg se tm gs)), (aI k (a 3) 72 fprices), (aI k (a 36) 4 fwalks), (aI k (a 37) 4 (nF br_)), (aI k (a 40) 4 fdoorsOf_)]) := by
  intro sz
  refine Met.ofW (cc := cX8_turnAll) (maxL := 7) (ret := (some .int)) (by decide) rfl ?_
  intro p e s m args below meth c s₁ B hml hv
  obtain ⟨rfl, hsz, hlo, hP, hK, hDL, hZ⟩ := hv
  have hx := B.exec
  have hb := B.bytes
  have hr := B.returns
  have hts := WS_ts B.pre
  have hown : s.vm.findClass RX8 = some m.cls := findClass_of_methodNamed B.named
  have hlocks := B.notSynchronized
  subst hsz
  have hD := hDL.self (sz := s.heap.size)
  have hAlo := A_lo hDL hlo
  generalize hAe : va_A [((a 0), .inr (8, (fX8 a (nI tx) fp (nI t0) wd (nI we) nu na (nI rd) ts (nI ru) (nI rw) (nI ca) df db sd))), (aI k (a 1) 3 (nF dn)), (aI k (a 4) 27 (sg se tm gs)), (aI k (a 3) 72 fprices), (aI k (a 36) 4 fwalks), (aI k (a 37) 4 (nF br)), (aI k (a 40) 4 fdoorsOf)] s.heap.size = A at hD hAlo ⊢
  have hA : ∀ q : Nat, s.heap.size ≤ q → A q := fun q h => by rw [← hAe]; exact Or.inr h
  have hS : va_S A s.heap s.heap [] := va_S.rf
  have hl := lv_entry ([.ref (a 0), .int (nI sn), .int p1]) (n := 7) (Nat.le_of_ble_eq_true rfl)
  rw [lg_entry_eq]
  generalize (lg_sl ([.ref (a 0), .int (nI sn), .int p1]) ++ List.replicate (7 - (lg_sl ([.ref (a 0), .int (nI sn), .int p1])).length) Slot.unset).toArray = ls at hl ⊢
  have hl : lv_has ls 7 [(0, .ref (a 0)), (1, .int (nI sn)), (2, .int p1)] := hl
  refine lv_iconst (v := 0) hx hb dX8_turnAll_0 (by decide) ?_
  refine lv_istore_n (lv' := [(3, .int 0), (0, .ref (a 0)), (1, .int (nI sn)), (2, .int p1)]) hx hb dX8_turnAll_1 rfl hl (by decide) rfl (fun ls hl => ?_)
  refine W_loop (σ := Nat × (Nat → Nat) × (Nat → Int32)) (fun (n_ : Nat) (x_ : Nat × (Nat → Nat) × (Nat → Int32)) (H : Heap) (locs : List Loc) (ls : Array Slot) => match x_ with | (tt_1, b2_1, fd_1) => n_ = 50 - tt_1 ∧ (tt_1 ≤ 50 ∧ (∀ j, b2_1 j ≤ 24) ∧ dvOK fd_1) ∧ va_P D classes [((a 0), .inr (8, (fX8 a (nI tx) fp (nI t0) wd (nI we) nu na (nI rd) ts (nI ru) (nI rw) (nI ca) df db sd))), (aI k (a 1) 3 (nF dn)), (aI k (a 4) 27 (sg se tm gs)), (aI k (a 3) 72 fprices), (aI k (a 36) 4 fwalks), (aI k (a 37) 4 (nF b2_1)), (aI k (a 40) 4 fd_1)] H ∧ va_D A [((a 0), .inr (8, (fX8 a (nI tx) fp (nI t0) wd (nI we) nu na (nI rd) ts (nI ru) (nI rw) (nI ca) df db sd))), (aI k (a 1) 3 (nF dn)), (aI k (a 4) 27 (sg se tm gs)), (aI k (a 3) 72 fprices), (aI k (a 36) 4 fwalks), (aI k (a 37) 4 (nF b2_1)), (aI k (a 40) 4 fd_1)] ∧ va_S A s.heap H locs ∧ lv_has ls 7 [(3, .int (nI tt_1)), (0, .ref (a 0)), (1, .int (nI sn)), (2, .int p1)]) (fun n_1 x_1 H locs ls hI ih_1 => ?_) _ (0, br, fdoorsOf) ⟨rfl, ⟨by omega, hbr, hdv⟩, hP, hD, hS, (lv_sub hl [0, 1, 2, 3] rfl)⟩
  obtain ⟨tt_1, b2_1, fd_1⟩ := x_1
  obtain ⟨hm_1, hv_1, hP, hD, hS, hl⟩ := hI
  subst hm_1
  have hbl_1 := hv_1.2.1
  have hdvl_1 := hv_1.2.2
  refine lv_iload_n hx hb dX8_turnAll_2 rfl (lv_at hl 0 rfl) ?_
  refine lv_bipush (v := 50) hx hb dX8_turnAll_3 (by decide) ?_
  refine lv_icmp_ge (tgt := 85) hx hb dX8_turnAll_5 (by decide) (fun c_2 => ?_) (fun c_2 => ?_)
  · have c_2 := (nI_leI (a := 50) (b := tt_1) (by omega) (by omega)).mp c_2
    refine lv_iconst (v := (-1)) hx hb dX8_turnAll_85 (by decide) ?_
    have hP9 := hP.sub (ws' := [((a 0), .inr (8, (fX8 a (nI tx) fp (nI t0) wd (nI we) nu na (nI rd) ts (nI ru) (nI rw) (nI ca) df db sd))), (aI k (a 1) 3 (nF dn)), (aI k (a 4) 27 (sg se tm gs)), (aI k (a 3) 72 fprices), (aI k (a 36) 4 fwalks), (aI k (a 37) 4 (nF b2_1)), (aI k (a 40) 4 fd_1)]) [0, 1, 2, 3, 4, 5, 6] rfl
    have hD9 := hD.sub (ws' := [((a 0), .inr (8, (fX8 a (nI tx) fp (nI t0) wd (nI we) nu na (nI rd) ts (nI ru) (nI rw) (nI ca) df db sd))), (aI k (a 1) 3 (nF dn)), (aI k (a 4) 27 (sg se tm gs)), (aI k (a 3) 72 fprices), (aI k (a 36) 4 fwalks), (aI k (a 37) 4 (nF b2_1)), (aI k (a 40) 4 fd_1)]) [0, 1, 2, 3, 4, 5, 6] (by decide) rfl
    exact W.iret (v := (-1)) hx hb hr (fun t ht hW => ⟨⟨(-1), (b2_1, fd_1), rfl, ⟨hbl_1, hdvl_1⟩, by rw [ht]; exact hP9, hD9⟩, hS.F ht⟩) hS.2.2 dX8_turnAll_86
  · have c_2 : ¬ (50 ≤ tt_1) := fun h => c_2 ((nI_leI (a := 50) (b := tt_1) (by omega) (by omega)).mpr h)
    refine lv_iconst (v := 0) hx hb dX8_turnAll_8 (by decide) ?_
    refine lv_istore (lv' := [(4, .int 0), (3, .int (nI tt_1)), (0, .ref (a 0)), (1, .int (nI sn)), (2, .int p1)]) hx hb dX8_turnAll_9 hl (by decide) rfl (fun ls hl => ?_)
    refine lv_iconst (v := 0) hx hb dX8_turnAll_11 (by decide) ?_
    refine lv_istore (lv' := [(5, .int 0), (4, .int 0), (3, .int (nI tt_1)), (0, .ref (a 0)), (1, .int (nI sn)), (2, .int p1)]) hx hb dX8_turnAll_12 hl (by decide) rfl (fun ls hl => ?_)
    refine W_loop (σ := Nat × Int32 × (Nat → Nat) × (Nat → Int32)) (fun (n_ : Nat) (x_ : Nat × Int32 × (Nat → Nat) × (Nat → Int32)) (H : Heap) (locs : List Loc) (ls : Array Slot) => match x_ with | (cc_3, chg_3, b2_3, fd_3) => n_ = 4 - cc_3 ∧ (cc_3 ≤ 4 ∧ (∀ j, b2_3 j ≤ 24) ∧ dvOK fd_3) ∧ va_P D classes [((a 0), .inr (8, (fX8 a (nI tx) fp (nI t0) wd (nI we) nu na (nI rd) ts (nI ru) (nI rw) (nI ca) df db sd))), (aI k (a 1) 3 (nF dn)), (aI k (a 4) 27 (sg se tm gs)), (aI k (a 3) 72 fprices), (aI k (a 36) 4 fwalks), (aI k (a 37) 4 (nF b2_3)), (aI k (a 40) 4 fd_3)] H ∧ va_D A [((a 0), .inr (8, (fX8 a (nI tx) fp (nI t0) wd (nI we) nu na (nI rd) ts (nI ru) (nI rw) (nI ca) df db sd))), (aI k (a 1) 3 (nF dn)), (aI k (a 4) 27 (sg se tm gs)), (aI k (a 3) 72 fprices), (aI k (a 36) 4 fwalks), (aI k (a 37) 4 (nF b2_3)), (aI k (a 40) 4 fd_3)] ∧ va_S A s.heap H locs ∧ lv_has ls 7 [(5, .int (nI cc_3)), (4, .int chg_3), (3, .int (nI tt_1)), (0, .ref (a 0)), (1, .int (nI sn)), (2, .int p1)]) (fun n_3 x_3 H locs ls hI ih_3 => ?_) _ (0, 0, b2_1, fd_1) ⟨rfl, ⟨by omega, hbl_1, hdvl_1⟩, hP, hD, hS, (lv_sub hl [0, 1, 2, 3, 4, 5] rfl)⟩
    obtain ⟨cc_3, chg_3, b2_3, fd_3⟩ := x_3
    obtain ⟨hm_3, hv_3, hP, hD, hS, hl⟩ := hI
    subst hm_3
    have hbl_3 := hv_3.2.1
    have hdvl_3 := hv_3.2.2
    refine lv_iload hx hb dX8_turnAll_14 (lv_at hl 0 rfl) ?_
    refine lv_aload_n hx hb dX8_turnAll_16 rfl (lv_at hl 3 rfl) ?_
    refine va_get (D := D) (ci := 8) (v := .int (nI ca)) (C := RX8) (T := TX8) (N := 44) hx hb hts inX8 hown hK hP 0 rfl rfl 34 (by decide) (hts _ tw_1007) (fun _ h9 => h9) rfl dX8_turnAll_17 ?_
    refine lv_icmp_ge (tgt := 72) hx hb dX8_turnAll_20 (by decide) (fun c_4 => ?_) (fun c_4 => ?_)
    · have c_4 := (nI_leI (a := ca) (b := cc_3) (by omega) (by omega)).mp c_4
      refine lv_iload hx hb dX8_turnAll_72 (lv_at hl 1 rfl) ?_
      refine lv_if_ne (tgt := 79) hx hb dX8_turnAll_74 (by decide) (fun c_5 => ?_) (fun c_5 => ?_)
      · refine lv_iinc (v := (nI (tt_1 + 1))) (lv' := [(3, .int (nI (tt_1 + 1))), (5, .int (nI cc_3)), (4, .int chg_3), (0, .ref (a 0)), (1, .int (nI sn)), (2, .int p1)]) hx hb dX8_turnAll_79 hl (k := 2) rfl (nI_add tt_1 1) (by decide) rfl (fun ls hl => ?_)
        refine lv_goto (tgt := 2) hx hb dX8_turnAll_82 (by decide) ?_
        exact ih_1 _ (tt_1 + 1, b2_3, fd_3) _ _ _ (by omega) ⟨rfl, ⟨by omega, hbl_3, hdvl_3⟩, hP, hD, hS, (lv_sub hl [0, 3, 4, 5] rfl)⟩
      · refine lv_iload_n hx hb dX8_turnAll_77 rfl (lv_at hl 2 rfl) ?_
        have hP9 := hP.sub (ws' := [((a 0), .inr (8, (fX8 a (nI tx) fp (nI t0) wd (nI we) nu na (nI rd) ts (nI ru) (nI rw) (nI ca) df db sd))), (aI k (a 1) 3 (nF dn)), (aI k (a 4) 27 (sg se tm gs)), (aI k (a 3) 72 fprices), (aI k (a 36) 4 fwalks), (aI k (a 37) 4 (nF b2_3)), (aI k (a 40) 4 fd_3)]) [0, 1, 2, 3, 4, 5, 6] rfl
        have hD9 := hD.sub (ws' := [((a 0), .inr (8, (fX8 a (nI tx) fp (nI t0) wd (nI we) nu na (nI rd) ts (nI ru) (nI rw) (nI ca) df db sd))), (aI k (a 1) 3 (nF dn)), (aI k (a 4) 27 (sg se tm gs)), (aI k (a 3) 72 fprices), (aI k (a 36) 4 fwalks), (aI k (a 37) 4 (nF b2_3)), (aI k (a 40) 4 fd_3)]) [0, 1, 2, 3, 4, 5, 6] (by decide) rfl
        exact W.iret (v := (nI tt_1)) hx hb hr (fun t ht hW => ⟨⟨(nI tt_1), (b2_3, fd_3), rfl, ⟨hbl_3, hdvl_3⟩, by rw [ht]; exact hP9, hD9⟩, hS.F ht⟩) hS.2.2 dX8_turnAll_78
    · have c_4 : ¬ (ca ≤ cc_3) := fun h => c_4 ((nI_leI (a := ca) (b := cc_3) (by omega) (by omega)).mpr h)
      refine lv_aload_n hx hb dX8_turnAll_23 rfl (lv_at hl 3 rfl) ?_
      refine lv_iload_n hx hb dX8_turnAll_24 rfl (lv_at hl 4 rfl) ?_
      refine lv_iload_n hx hb dX8_turnAll_25 rfl (lv_at hl 5 rfl) ?_
      refine lv_iload hx hb dX8_turnAll_26 (lv_at hl 0 rfl) ?_
      refine rw_i (D := D) (wr := []) (va_runV (As := [.int (nI sn), .int p1, .int (nI cc_3)]) (rest := []) ⟨hx, hb, hml, hown, hts⟩ ((m_bestBar l D k st lo a tx t0 we rd ru rw ca fp wd nu na ts df db sd dn se tm gs fprices fwalks b2_3 fd_3 sn cc_3 p1 hdn (by first | assumption | omega) hbl_3 (by first | assumption | omega) (by first | assumption | omega) hdvl_3) H.size) (cwV 3 hts (gV tw_1414 tw_1416 tw_69 tw_87 tw_1417) rfl rfl rfl (by decide +kernel) ⟨Nat.le_of_ble_eq_true rfl, Nat.le_of_ble_eq_true rfl⟩) (pV hS hAlo hlo hP hK (va_Dlo hD hAlo) hZ [0, 1, 2, 3, 4, 5, 6] (by decide) rfl (ci := 8) (q := (RX8, TX8, 44)) (q0 := 0) rfl rfl) rfl rfl hl.1 rfl (lv_room (Nat.le_of_ble_eq_true rfl)) dX8_turnAll_28 ⟨Nat.le_of_ble_eq_true rfl, Nat.le_of_ble_eq_true rfl⟩) hS hA hP hD [0, 1, 2, 3, 4, 5, 6] [] rfl rfl (by decide) (by decide) (fun r_6 u H locs hw_6 hP hD hS => ?_)
      obtain ⟨br__6, fdoorsOf__6, er_6⟩ := u
      replace hP : va_P D classes [((a 0), .inr (8, (fX8 a (nI tx) fp (nI t0) wd (nI we) nu na (nI rd) ts (nI ru) (nI rw) (nI ca) df db sd))), (aI k (a 1) 3 (nF dn)), (aI k (a 4) 27 (sg se tm gs)), (aI k (a 3) 72 fprices), (aI k (a 36) 4 fwalks), (aI k (a 37) 4 (nF br__6)), (aI k (a 40) 4 fdoorsOf__6)] H := hP
      replace hD : va_D A [((a 0), .inr (8, (fX8 a (nI tx) fp (nI t0) wd (nI we) nu na (nI rd) ts (nI ru) (nI rw) (nI ca) df db sd))), (aI k (a 1) 3 (nF dn)), (aI k (a 4) 27 (sg se tm gs)), (aI k (a 3) 72 fprices), (aI k (a 36) 4 fwalks), (aI k (a 37) 4 (nF br__6)), (aI k (a 40) 4 fdoorsOf__6)] := hD
      try dsimp only at hw_6
      obtain ⟨rfl, hw_6⟩ := hw_6
      refine lv_istore (lv' := [(6, .int (nI er_6)), (5, .int (nI cc_3)), (4, .int chg_3), (3, .int (nI tt_1)), (0, .ref (a 0)), (1, .int (nI sn)), (2, .int p1)]) hx hb dX8_turnAll_31 hl (by decide) rfl (fun ls hl => ?_)
      refine lv_iload hx hb dX8_turnAll_33 (lv_at hl 2 rfl) ?_
      refine lv_if_ne (tgt := 50) hx hb dX8_turnAll_35 (by decide) (fun c_7 => ?_) (fun c_7 => ?_)
      · refine lv_iconst (v := 1) hx hb dX8_turnAll_50 (by decide) ?_
        refine lv_goto (tgt := 55) hx hb dX8_turnAll_51 (by decide) ?_
        refine lv_istore (lv' := [(4, .int 1), (6, .int (nI er_6)), (5, .int (nI cc_3)), (3, .int (nI tt_1)), (0, .ref (a 0)), (1, .int (nI sn)), (2, .int p1)]) hx hb dX8_turnAll_55 hl (by decide) rfl (fun ls hl => ?_)
        refine lv_aload_n hx hb dX8_turnAll_57 rfl (lv_at hl 4 rfl) ?_
        refine va_get (D := D) (ci := 8) (v := .ref (a 37)) (C := RX8) (T := TX8) (N := 44) hx hb hts inX8 hown hK hP 0 rfl rfl 36 (by decide) (hts _ tw_1009) (fun _ h9 => h9) rfl dX8_turnAll_58 ?_
        refine lv_iload hx hb dX8_turnAll_61 (lv_at hl 2 rfl) ?_
        refine lv_iload hx hb dX8_turnAll_63 (lv_at hl 1 rfl) ?_
        refine va_iast hx hb hK hP hD hS 5 1 rfl rfl (vp_in_nI (by omega) (by decide)) dX8_turnAll_65 (fun H locs hP hD hS => ?_)
        replace hP : va_P D classes [((a 0), .inr (8, (fX8 a (nI tx) fp (nI t0) wd (nI we) nu na (nI rd) ts (nI ru) (nI rw) (nI ca) df db sd))), (aI k (a 1) 3 (nF dn)), (aI k (a 4) 27 (sg se tm gs)), (aI k (a 3) 72 fprices), (aI k (a 36) 4 fwalks), (aI k (a 37) 4 (upd (nF br__6) (Int32.toNatClampNeg (nI cc_3)) (nI er_6))), (aI k (a 40) 4 fdoorsOf__6)] H := hP
        replace hD : va_D A [((a 0), .inr (8, (fX8 a (nI tx) fp (nI t0) wd (nI we) nu na (nI rd) ts (nI ru) (nI rw) (nI ca) df db sd))), (aI k (a 1) 3 (nF dn)), (aI k (a 4) 27 (sg se tm gs)), (aI k (a 3) 72 fprices), (aI k (a 36) 4 fwalks), (aI k (a 37) 4 (upd (nF br__6) (Int32.toNatClampNeg (nI cc_3)) (nI er_6))), (aI k (a 40) 4 fdoorsOf__6)] := hD
        rw [nI_clamp (n := cc_3) (by omega)] at hP hD
        rw [show upd (nF br__6) cc_3 (nI er_6) = nF (fun j => if j = cc_3 then er_6 else br__6 j) from nF_upd _ _ _] at hP hD
        obtain ⟨d_9, hd_9⟩ : ∃ z : Nat → Nat, z = (fun j => if j = cc_3 then er_6 else br__6 j) := ⟨_, rfl⟩
        rw [← hd_9] at hP hD
        have hbb_9 : ∀ j, d_9 j ≤ 24 := by rw [hd_9]; exact up_le hw_6.2.1 (by omega)
        refine lv_iinc (v := (nI (cc_3 + 1))) (lv' := [(5, .int (nI (cc_3 + 1))), (4, .int 1), (6, .int (nI er_6)), (3, .int (nI tt_1)), (0, .ref (a 0)), (1, .int (nI sn)), (2, .int p1)]) hx hb dX8_turnAll_66 hl (k := 2) rfl (nI_add cc_3 1) (by decide) rfl (fun ls hl => ?_)
        refine lv_goto (tgt := 14) hx hb dX8_turnAll_69 (by decide) ?_
        exact ih_3 _ (cc_3 + 1, 1, d_9, fdoorsOf__6) _ _ _ (by omega) ⟨rfl, ⟨by omega, hbb_9, hw_6.2.2⟩, hP, hD, hS, (lv_sub hl [0, 1, 3, 4, 5, 6] rfl)⟩
      · refine lv_iload hx hb dX8_turnAll_38 (lv_at hl 0 rfl) ?_
        refine lv_aload_n hx hb dX8_turnAll_40 rfl (lv_at hl 4 rfl) ?_
        refine va_get (D := D) (ci := 8) (v := .ref (a 37)) (C := RX8) (T := TX8) (N := 44) hx hb hts inX8 hown hK hP 0 rfl rfl 36 (by decide) (hts _ tw_1009) (fun _ h9 => h9) rfl dX8_turnAll_41 ?_
        refine lv_iload hx hb dX8_turnAll_44 (lv_at hl 1 rfl) ?_
        refine va_iald hx hb hK hP 5 1 rfl rfl (vp_in_nI (by omega) (by decide)) dX8_turnAll_46 ?_
        have hq_10 := hw_6.2.1 cc_3
        refine lv_ti (y := (nI (br__6 cc_3))) (by rw [nI_clamp (by omega)]; rfl) ?_
        refine lv_icmp_eq (tgt := 54) hx hb dX8_turnAll_47 (by decide) (fun c_11 => ?_) (fun c_11 => ?_)
        · have c_11 := (nI_eq (a := er_6) (b := (br__6 cc_3)) (by omega) (by omega)).mp c_11
          refine lv_iconst (v := 0) hx hb dX8_turnAll_54 (by decide) ?_
          refine lv_istore (lv' := [(4, .int 0), (6, .int (nI er_6)), (5, .int (nI cc_3)), (3, .int (nI tt_1)), (0, .ref (a 0)), (1, .int (nI sn)), (2, .int p1)]) hx hb dX8_turnAll_55 hl (by decide) rfl (fun ls hl => ?_)
          refine lv_aload_n hx hb dX8_turnAll_57 rfl (lv_at hl 4 rfl) ?_
          refine va_get (D := D) (ci := 8) (v := .ref (a 37)) (C := RX8) (T := TX8) (N := 44) hx hb hts inX8 hown hK hP 0 rfl rfl 36 (by decide) (hts _ tw_1009) (fun _ h9 => h9) rfl dX8_turnAll_58 ?_
          refine lv_iload hx hb dX8_turnAll_61 (lv_at hl 2 rfl) ?_
          refine lv_iload hx hb dX8_turnAll_63 (lv_at hl 1 rfl) ?_
          refine va_iast hx hb hK hP hD hS 5 1 rfl rfl (vp_in_nI (by omega) (by decide)) dX8_turnAll_65 (fun H locs hP hD hS => ?_)
          replace hP : va_P D classes [((a 0), .inr (8, (fX8 a (nI tx) fp (nI t0) wd (nI we) nu na (nI rd) ts (nI ru) (nI rw) (nI ca) df db sd))), (aI k (a 1) 3 (nF dn)), (aI k (a 4) 27 (sg se tm gs)), (aI k (a 3) 72 fprices), (aI k (a 36) 4 fwalks), (aI k (a 37) 4 (upd (nF br__6) (Int32.toNatClampNeg (nI cc_3)) (nI er_6))), (aI k (a 40) 4 fdoorsOf__6)] H := hP
          replace hD : va_D A [((a 0), .inr (8, (fX8 a (nI tx) fp (nI t0) wd (nI we) nu na (nI rd) ts (nI ru) (nI rw) (nI ca) df db sd))), (aI k (a 1) 3 (nF dn)), (aI k (a 4) 27 (sg se tm gs)), (aI k (a 3) 72 fprices), (aI k (a 36) 4 fwalks), (aI k (a 37) 4 (upd (nF br__6) (Int32.toNatClampNeg (nI cc_3)) (nI er_6))), (aI k (a 40) 4 fdoorsOf__6)] := hD
          rw [nI_clamp (n := cc_3) (by omega)] at hP hD
          rw [show upd (nF br__6) cc_3 (nI er_6) = nF (fun j => if j = cc_3 then er_6 else br__6 j) from nF_upd _ _ _] at hP hD
          obtain ⟨d_13, hd_13⟩ : ∃ z : Nat → Nat, z = (fun j => if j = cc_3 then er_6 else br__6 j) := ⟨_, rfl⟩
          rw [← hd_13] at hP hD
          have hbb_13 : ∀ j, d_13 j ≤ 24 := by rw [hd_13]; exact up_le hw_6.2.1 (by omega)
          refine lv_iinc (v := (nI (cc_3 + 1))) (lv' := [(5, .int (nI (cc_3 + 1))), (4, .int 0), (6, .int (nI er_6)), (3, .int (nI tt_1)), (0, .ref (a 0)), (1, .int (nI sn)), (2, .int p1)]) hx hb dX8_turnAll_66 hl (k := 2) rfl (nI_add cc_3 1) (by decide) rfl (fun ls hl => ?_)
          refine lv_goto (tgt := 14) hx hb dX8_turnAll_69 (by decide) ?_
          exact ih_3 _ (cc_3 + 1, 0, d_13, fdoorsOf__6) _ _ _ (by omega) ⟨rfl, ⟨by omega, hbb_13, hw_6.2.2⟩, hP, hD, hS, (lv_sub hl [0, 1, 3, 4, 5, 6] rfl)⟩
        · have c_11 : ¬ (er_6 = (br__6 cc_3)) := fun h => c_11 ((nI_eq (a := er_6) (b := (br__6 cc_3)) (by omega) (by omega)).mpr h)
          refine lv_iconst (v := 1) hx hb dX8_turnAll_50 (by decide) ?_
          refine lv_goto (tgt := 55) hx hb dX8_turnAll_51 (by decide) ?_
          refine lv_istore (lv' := [(4, .int 1), (6, .int (nI er_6)), (5, .int (nI cc_3)), (3, .int (nI tt_1)), (0, .ref (a 0)), (1, .int (nI sn)), (2, .int p1)]) hx hb dX8_turnAll_55 hl (by decide) rfl (fun ls hl => ?_)
          refine lv_aload_n hx hb dX8_turnAll_57 rfl (lv_at hl 4 rfl) ?_
          refine va_get (D := D) (ci := 8) (v := .ref (a 37)) (C := RX8) (T := TX8) (N := 44) hx hb hts inX8 hown hK hP 0 rfl rfl 36 (by decide) (hts _ tw_1009) (fun _ h9 => h9) rfl dX8_turnAll_58 ?_
          refine lv_iload hx hb dX8_turnAll_61 (lv_at hl 2 rfl) ?_
          refine lv_iload hx hb dX8_turnAll_63 (lv_at hl 1 rfl) ?_
          refine va_iast hx hb hK hP hD hS 5 1 rfl rfl (vp_in_nI (by omega) (by decide)) dX8_turnAll_65 (fun H locs hP hD hS => ?_)
          replace hP : va_P D classes [((a 0), .inr (8, (fX8 a (nI tx) fp (nI t0) wd (nI we) nu na (nI rd) ts (nI ru) (nI rw) (nI ca) df db sd))), (aI k (a 1) 3 (nF dn)), (aI k (a 4) 27 (sg se tm gs)), (aI k (a 3) 72 fprices), (aI k (a 36) 4 fwalks), (aI k (a 37) 4 (upd (nF br__6) (Int32.toNatClampNeg (nI cc_3)) (nI er_6))), (aI k (a 40) 4 fdoorsOf__6)] H := hP
          replace hD : va_D A [((a 0), .inr (8, (fX8 a (nI tx) fp (nI t0) wd (nI we) nu na (nI rd) ts (nI ru) (nI rw) (nI ca) df db sd))), (aI k (a 1) 3 (nF dn)), (aI k (a 4) 27 (sg se tm gs)), (aI k (a 3) 72 fprices), (aI k (a 36) 4 fwalks), (aI k (a 37) 4 (upd (nF br__6) (Int32.toNatClampNeg (nI cc_3)) (nI er_6))), (aI k (a 40) 4 fdoorsOf__6)] := hD
          rw [nI_clamp (n := cc_3) (by omega)] at hP hD
          rw [show upd (nF br__6) cc_3 (nI er_6) = nF (fun j => if j = cc_3 then er_6 else br__6 j) from nF_upd _ _ _] at hP hD
          obtain ⟨d_15, hd_15⟩ : ∃ z : Nat → Nat, z = (fun j => if j = cc_3 then er_6 else br__6 j) := ⟨_, rfl⟩
          rw [← hd_15] at hP hD
          have hbb_15 : ∀ j, d_15 j ≤ 24 := by rw [hd_15]; exact up_le hw_6.2.1 (by omega)
          refine lv_iinc (v := (nI (cc_3 + 1))) (lv' := [(5, .int (nI (cc_3 + 1))), (4, .int 1), (6, .int (nI er_6)), (3, .int (nI tt_1)), (0, .ref (a 0)), (1, .int (nI sn)), (2, .int p1)]) hx hb dX8_turnAll_66 hl (k := 2) rfl (nI_add cc_3 1) (by decide) rfl (fun ls hl => ?_)
          refine lv_goto (tgt := 14) hx hb dX8_turnAll_69 (by decide) ?_
          exact ih_3 _ (cc_3 + 1, 1, d_15, fdoorsOf__6) _ _ _ (by omega) ⟨rfl, ⟨by omega, hbb_15, hw_6.2.2⟩, hP, hD, hS, (lv_sub hl [0, 1, 3, 4, 5, 6] rfl)⟩

theorem dX8_turn_0 : decode cX8_turn 0 = .ok (.aload_n 0, 1) := by decide +kernel
theorem dX8_turn_1 : decode cX8_turn 1 = .ok (.iload_n 1, 1) := by decide +kernel
theorem dX8_turn_2 : decode cX8_turn 2 = .ok (.invokevirtual 206, 3) := by decide +kernel
theorem dX8_turn_5 : decode cX8_turn 5 = .ok (.ifCond .ne 7, 3) := by decide +kernel
theorem dX8_turn_8 : decode cX8_turn 8 = .ok (.sipush (-1001), 3) := by decide +kernel
theorem dX8_turn_11 : decode cX8_turn 11 = .ok (.ireturn, 1) := by decide +kernel
theorem dX8_turn_12 : decode cX8_turn 12 = .ok (.aload_n 0, 1) := by decide +kernel
theorem dX8_turn_13 : decode cX8_turn 13 = .ok (.iload_n 1, 1) := by decide +kernel
theorem dX8_turn_14 : decode cX8_turn 14 = .ok (.iload_n 2, 1) := by decide +kernel
theorem dX8_turn_15 : decode cX8_turn 15 = .ok (.invokevirtual 333, 3) := by decide +kernel
theorem dX8_turn_18 : decode cX8_turn 18 = .ok (.ifCond .eq 12, 3) := by decide +kernel
theorem dX8_turn_21 : decode cX8_turn 21 = .ok (.aload_n 0, 1) := by decide +kernel
theorem dX8_turn_22 : decode cX8_turn 22 = .ok (.iload_n 1, 1) := by decide +kernel
theorem dX8_turn_23 : decode cX8_turn 23 = .ok (.iload_n 2, 1) := by decide +kernel
theorem dX8_turn_24 : decode cX8_turn 24 = .ok (.invokevirtual 345, 3) := by decide +kernel
theorem dX8_turn_27 : decode cX8_turn 27 = .ok (.goto 6, 3) := by decide +kernel
theorem dX8_turn_30 : decode cX8_turn 30 = .ok (.sipush (-1002), 3) := by decide +kernel
theorem dX8_turn_33 : decode cX8_turn 33 = .ok (.ireturn, 1) := by decide +kernel
set_option maxHeartbeats 4000000 in
set_option maxRecDepth 100000 in
theorem m_turn (l : Launch) (D : va_G) (k : Nat → ClassId) (st : Nat → Nat) (lo : Nat) (a : Nat → Nat) (tx : Nat) (t0 : Nat) (we : Nat) (rd : Nat) (ru : Nat) (rw : Nat) (ca : Nat) (fp : Int32) (wd : Int64) (nu : Int32) (na : Int32) (ts : Int32) (df : Int32) (db : Int32) (sd : Int32) (dn : Nat → Nat) (se : Nat → Nat) (tm : Nat → Nat) (gs : Nat → Int32) (fprices : Nat → Int32) (fwalks : Nat → Int32) (br : Nat → Nat) (fdoorsOf : Nat → Int32) (p0 : Int32) (p1 : Int32) (hdn : ∀ j, dn j ≤ 24) (hca : ca ≤ 4) (hbr : ∀ j, br j ≤ 24) (hdv : dvOK fdoorsOf) : CWi l D k st lo yX8_turn cX8_turn 3 (some .int) ({ frames := 7, cells := 0, slots := 0, locals := 171 }) 0 0 [.ref (a 0), .int p0, .int p1] [((a 0), .inr (8, (fX8 a (nI tx) fp (nI t0) wd (nI we) nu na (nI rd) ts (nI ru) (nI rw) (nI ca) df db sd))), (aI k (a 1) 3 (nF dn)), (aI k (a 4) 27 (sg se tm gs)), (aI k (a 3) 72 fprices), (aI k (a 36) 4 fwalks), (aI k (a 37) 4 (nF br)), (aI k (a 40) 4 fdoorsOf)] (fun (r : Int32) (u : (Nat → Nat) × (Nat → Int32)) => match u with | (br_, fdoorsOf_) => (∀ j, br_ j ≤ 24) ∧ dvOK fdoorsOf_) (fun (u : (Nat → Nat) × (Nat → Int32)) => match u with | (br_, fdoorsOf_) => [((a 0), .inr (8, (fX8 a (nI tx) fp (nI t0) wd (nI we) nu na (nI rd) ts (nI ru) (nI rw) (nI ca) df db sd))), (aI k (a 1) 3 (nF dn)), (aI k (a 4) 27 (sg se tm gs)), (aI k (a 3) 72 fprices), (aI k (a 36) 4 fwalks), (aI k (a 37) 4 (nF br_)), (aI k (a 40) 4 fdoorsOf_)]) := by
  intro sz
  refine Met.ofW (cc := cX8_turn) (maxL := 3) (ret := (some .int)) (by decide) rfl ?_
  intro p e s m args below meth c s₁ B hml hv
  obtain ⟨rfl, hsz, hlo, hP, hK, hDL, hZ⟩ := hv
  have hx := B.exec
  have hb := B.bytes
  have hr := B.returns
  have hts := WS_ts B.pre
  have hown : s.vm.findClass RX8 = some m.cls := findClass_of_methodNamed B.named
  have hlocks := B.notSynchronized
  subst hsz
  have hD := hDL.self (sz := s.heap.size)
  have hAlo := A_lo hDL hlo
  generalize hAe : va_A [((a 0), .inr (8, (fX8 a (nI tx) fp (nI t0) wd (nI we) nu na (nI rd) ts (nI ru) (nI rw) (nI ca) df db sd))), (aI k (a 1) 3 (nF dn)), (aI k (a 4) 27 (sg se tm gs)), (aI k (a 3) 72 fprices), (aI k (a 36) 4 fwalks), (aI k (a 37) 4 (nF br)), (aI k (a 40) 4 fdoorsOf)] s.heap.size = A at hD hAlo ⊢
  have hA : ∀ q : Nat, s.heap.size ≤ q → A q := fun q h => by rw [← hAe]; exact Or.inr h
  have hS : va_S A s.heap s.heap [] := va_S.rf
  have hl := lv_entry ([.ref (a 0), .int p0, .int p1]) (n := 3) (Nat.le_of_ble_eq_true rfl)
  rw [lg_entry_eq]
  generalize (lg_sl ([.ref (a 0), .int p0, .int p1]) ++ List.replicate (3 - (lg_sl ([.ref (a 0), .int p0, .int p1])).length) Slot.unset).toArray = ls at hl ⊢
  have hl : lv_has ls 3 [(0, .ref (a 0)), (1, .int p0), (2, .int p1)] := hl
  refine lv_aload_n hx hb dX8_turn_0 rfl (lv_at hl 0 rfl) ?_
  refine lv_iload_n hx hb dX8_turn_1 rfl (lv_at hl 1 rfl) ?_
  refine ro_i (D := D) (va_runV (As := [.int p0]) (rest := []) ⟨hx, hb, hml, hown, hts⟩ ((m_isStreet l D k st lo a tx t0 we rd ru rw ca fp wd nu na ts df db sd dn p0 hdn) s.heap.size) (cwV 1 hts (gV tw_1189 tw_1191 tw_38 tw_87 tw_1192) rfl rfl rfl (by decide +kernel) ⟨Nat.le_of_ble_eq_true rfl, Nat.le_of_ble_eq_true rfl⟩) (pV hS hAlo hlo hP hK (va_Dlo hD hAlo) hZ [0, 1] (by decide) rfl (ci := 8) (q := (RX8, TX8, 44)) (q0 := 0) rfl rfl) rfl rfl hl.1 rfl (lv_room (Nat.le_of_ble_eq_true rfl)) dX8_turn_2 ⟨Nat.le_of_ble_eq_true rfl, Nat.le_of_ble_eq_true rfl⟩) hS hA hP (fun r_1 H locs hw_1 hP hS => ?_)
  try dsimp only at hw_1
  rcases hw_1 with ⟨rfl, j_2, hj_2, rfl, hw_1⟩ | rfl
  · have hdj_2 := hdn j_2
    refine lv_if_ne (tgt := 12) hx hb dX8_turn_5 (by decide) (fun _ => ?_) (fun h => absurd h (by decide))
    refine lv_aload_n hx hb dX8_turn_12 rfl (lv_at hl 0 rfl) ?_
    refine lv_iload_n hx hb dX8_turn_13 rfl (lv_at hl 1 rfl) ?_
    refine lv_iload_n hx hb dX8_turn_14 rfl (lv_at hl 2 rfl) ?_
    refine ro_i (D := D) (va_runV (As := [.int (nI j_2), .int p1]) (rest := []) ⟨hx, hb, hml, hown, hts⟩ ((m_isSet l D k st lo a tx t0 we rd ru rw ca fp wd nu na ts df db sd dn j_2 p1 hdn (by first | assumption | omega)) H.size) (cwV 2 hts (gV tw_1390 tw_1392 tw_64 tw_87 tw_1393) rfl rfl rfl (by decide +kernel) ⟨Nat.le_of_ble_eq_true rfl, Nat.le_of_ble_eq_true rfl⟩) (pV hS hAlo hlo hP hK (va_Dlo hD hAlo) hZ [0, 1] (by decide) rfl (ci := 8) (q := (RX8, TX8, 44)) (q0 := 0) rfl rfl) rfl rfl hl.1 rfl (lv_room (Nat.le_of_ble_eq_true rfl)) dX8_turn_15 ⟨Nat.le_of_ble_eq_true rfl, Nat.le_of_ble_eq_true rfl⟩) hS hA hP (fun r_3 H locs hw_3 hP hS => ?_)
    try dsimp only at hw_3
    refine lv_if_eq (tgt := 30) hx hb dX8_turn_18 (by decide) (fun c_4 => ?_) (fun c_4 => ?_)
    · refine lv_sipush (v := (-1002)) hx hb dX8_turn_30 (by decide) ?_
      have hP9 := hP.sub (ws' := [((a 0), .inr (8, (fX8 a (nI tx) fp (nI t0) wd (nI we) nu na (nI rd) ts (nI ru) (nI rw) (nI ca) df db sd))), (aI k (a 1) 3 (nF dn)), (aI k (a 4) 27 (sg se tm gs)), (aI k (a 3) 72 fprices), (aI k (a 36) 4 fwalks), (aI k (a 37) 4 (nF br)), (aI k (a 40) 4 fdoorsOf)]) [0, 1, 2, 3, 4, 5, 6] rfl
      have hD9 := hD.sub (ws' := [((a 0), .inr (8, (fX8 a (nI tx) fp (nI t0) wd (nI we) nu na (nI rd) ts (nI ru) (nI rw) (nI ca) df db sd))), (aI k (a 1) 3 (nF dn)), (aI k (a 4) 27 (sg se tm gs)), (aI k (a 3) 72 fprices), (aI k (a 36) 4 fwalks), (aI k (a 37) 4 (nF br)), (aI k (a 40) 4 fdoorsOf)]) [0, 1, 2, 3, 4, 5, 6] (by decide) rfl
      exact W.iret (v := (-1002)) hx hb hr (fun t ht hW => ⟨⟨(-1002), (br, fdoorsOf), rfl, ⟨hbr, hdv⟩, by rw [ht]; exact hP9, hD9⟩, hS.F ht⟩) hS.2.2 dX8_turn_33
    · refine lv_aload_n hx hb dX8_turn_21 rfl (lv_at hl 0 rfl) ?_
      refine lv_iload_n hx hb dX8_turn_22 rfl (lv_at hl 1 rfl) ?_
      refine lv_iload_n hx hb dX8_turn_23 rfl (lv_at hl 2 rfl) ?_
      refine rw_i (D := D) (wr := []) (va_runV (As := [.int (nI j_2), .int p1]) (rest := []) ⟨hx, hb, hml, hown, hts⟩ ((m_turnAll l D k st lo a tx t0 we rd ru rw ca fp wd nu na ts df db sd dn se tm gs fprices fwalks br fdoorsOf j_2 p1 hdn (by first | assumption | omega) hbr (by first | assumption | omega) hdv) H.size) (cwV 2 hts (gV tw_1422 tw_1424 tw_70 tw_87 tw_1425) rfl rfl rfl (by decide +kernel) ⟨Nat.le_of_ble_eq_true rfl, Nat.le_of_ble_eq_true rfl⟩) (pV hS hAlo hlo hP hK (va_Dlo hD hAlo) hZ [0, 1, 2, 3, 4, 5, 6] (by decide) rfl (ci := 8) (q := (RX8, TX8, 44)) (q0 := 0) rfl rfl) rfl rfl hl.1 rfl (lv_room (Nat.le_of_ble_eq_true rfl)) dX8_turn_24 ⟨Nat.le_of_ble_eq_true rfl, Nat.le_of_ble_eq_true rfl⟩) hS hA hP hD [0, 1, 2, 3, 4, 5, 6] [] rfl rfl (by decide) (by decide) (fun r_5 u H locs hw_5 hP hD hS => ?_)
      obtain ⟨br__5, fdoorsOf__5⟩ := u
      replace hP : va_P D classes [((a 0), .inr (8, (fX8 a (nI tx) fp (nI t0) wd (nI we) nu na (nI rd) ts (nI ru) (nI rw) (nI ca) df db sd))), (aI k (a 1) 3 (nF dn)), (aI k (a 4) 27 (sg se tm gs)), (aI k (a 3) 72 fprices), (aI k (a 36) 4 fwalks), (aI k (a 37) 4 (nF br__5)), (aI k (a 40) 4 fdoorsOf__5)] H := hP
      replace hD : va_D A [((a 0), .inr (8, (fX8 a (nI tx) fp (nI t0) wd (nI we) nu na (nI rd) ts (nI ru) (nI rw) (nI ca) df db sd))), (aI k (a 1) 3 (nF dn)), (aI k (a 4) 27 (sg se tm gs)), (aI k (a 3) 72 fprices), (aI k (a 36) 4 fwalks), (aI k (a 37) 4 (nF br__5)), (aI k (a 40) 4 fdoorsOf__5)] := hD
      try dsimp only at hw_5
      refine lv_goto (tgt := 33) hx hb dX8_turn_27 (by decide) ?_
      have hP9 := hP.sub (ws' := [((a 0), .inr (8, (fX8 a (nI tx) fp (nI t0) wd (nI we) nu na (nI rd) ts (nI ru) (nI rw) (nI ca) df db sd))), (aI k (a 1) 3 (nF dn)), (aI k (a 4) 27 (sg se tm gs)), (aI k (a 3) 72 fprices), (aI k (a 36) 4 fwalks), (aI k (a 37) 4 (nF br__5)), (aI k (a 40) 4 fdoorsOf__5)]) [0, 1, 2, 3, 4, 5, 6] rfl
      have hD9 := hD.sub (ws' := [((a 0), .inr (8, (fX8 a (nI tx) fp (nI t0) wd (nI we) nu na (nI rd) ts (nI ru) (nI rw) (nI ca) df db sd))), (aI k (a 1) 3 (nF dn)), (aI k (a 4) 27 (sg se tm gs)), (aI k (a 3) 72 fprices), (aI k (a 36) 4 fwalks), (aI k (a 37) 4 (nF br__5)), (aI k (a 40) 4 fdoorsOf__5)]) [0, 1, 2, 3, 4, 5, 6] (by decide) rfl
      exact W.iret (v := r_5) hx hb hr (fun t ht hW => ⟨⟨r_5, (br__5, fdoorsOf__5), rfl, ⟨hw_5.1, hw_5.2⟩, by rw [ht]; exact hP9, hD9⟩, hS.F ht⟩) hS.2.2 dX8_turn_33
  · refine lv_if_ne (tgt := 12) hx hb dX8_turn_5 (by decide) (fun h => absurd (by decide) h) (fun _ => ?_)
    refine lv_sipush (v := (-1001)) hx hb dX8_turn_8 (by decide) ?_
    have hP9 := hP.sub (ws' := [((a 0), .inr (8, (fX8 a (nI tx) fp (nI t0) wd (nI we) nu na (nI rd) ts (nI ru) (nI rw) (nI ca) df db sd))), (aI k (a 1) 3 (nF dn)), (aI k (a 4) 27 (sg se tm gs)), (aI k (a 3) 72 fprices), (aI k (a 36) 4 fwalks), (aI k (a 37) 4 (nF br)), (aI k (a 40) 4 fdoorsOf)]) [0, 1, 2, 3, 4, 5, 6] rfl
    have hD9 := hD.sub (ws' := [((a 0), .inr (8, (fX8 a (nI tx) fp (nI t0) wd (nI we) nu na (nI rd) ts (nI ru) (nI rw) (nI ca) df db sd))), (aI k (a 1) 3 (nF dn)), (aI k (a 4) 27 (sg se tm gs)), (aI k (a 3) 72 fprices), (aI k (a 36) 4 fwalks), (aI k (a 37) 4 (nF br)), (aI k (a 40) 4 fdoorsOf)]) [0, 1, 2, 3, 4, 5, 6] (by decide) rfl
    exact W.iret (v := (-1001)) hx hb hr (fun t ht hW => ⟨⟨(-1001), (br, fdoorsOf), rfl, ⟨hbr, hdv⟩, by rw [ht]; exact hP9, hD9⟩, hS.F ht⟩) hS.2.2 dX8_turn_11

theorem dX8_holdBars_0 : decode cX8_holdBars 0 = .ok (.iconst 0, 1) := by decide +kernel
theorem dX8_holdBars_1 : decode cX8_holdBars 1 = .ok (.istore_n 1, 1) := by decide +kernel
theorem dX8_holdBars_2 : decode cX8_holdBars 2 = .ok (.iload_n 1, 1) := by decide +kernel
theorem dX8_holdBars_3 : decode cX8_holdBars 3 = .ok (.iconst 4, 1) := by decide +kernel
theorem dX8_holdBars_4 : decode cX8_holdBars 4 = .ok (.if_icmp .ge 21, 3) := by decide +kernel
theorem dX8_holdBars_7 : decode cX8_holdBars 7 = .ok (.aload_n 0, 1) := by decide +kernel
theorem dX8_holdBars_8 : decode cX8_holdBars 8 = .ok (.getfield 93, 3) := by decide +kernel
theorem dX8_holdBars_11 : decode cX8_holdBars 11 = .ok (.iload_n 1, 1) := by decide +kernel
theorem dX8_holdBars_12 : decode cX8_holdBars 12 = .ok (.aload_n 0, 1) := by decide +kernel
theorem dX8_holdBars_13 : decode cX8_holdBars 13 = .ok (.getfield 87, 3) := by decide +kernel
theorem dX8_holdBars_16 : decode cX8_holdBars 16 = .ok (.iload_n 1, 1) := by decide +kernel
theorem dX8_holdBars_17 : decode cX8_holdBars 17 = .ok (.iaload, 1) := by decide +kernel
theorem dX8_holdBars_18 : decode cX8_holdBars 18 = .ok (.iastore, 1) := by decide +kernel
theorem dX8_holdBars_19 : decode cX8_holdBars 19 = .ok (.iinc 1 1, 3) := by decide +kernel
theorem dX8_holdBars_22 : decode cX8_holdBars 22 = .ok (.goto (-20), 3) := by decide +kernel
theorem dX8_holdBars_25 : decode cX8_holdBars 25 = .ok (.return_, 1) := by decide +kernel
set_option maxHeartbeats 4000000 in
set_option maxRecDepth 100000 in
theorem m_holdBars (l : Launch) (D : va_G) (k : Nat → ClassId) (st : Nat → Nat) (lo : Nat) (a : Nat → Nat) (tx : Nat) (t0 : Nat) (we : Nat) (rd : Nat) (ru : Nat) (rw : Nat) (ca : Nat) (fp : Int32) (wd : Int64) (nu : Int32) (na : Int32) (ts : Int32) (df : Int32) (db : Int32) (sd : Int32) (br : Nat → Nat) (wb : Nat → Nat) (hbr : ∀ j, br j ≤ 24) (hwb : ∀ j, wb j ≤ 24) : CWv l D k st lo yX8_holdBars cX8_holdBars 2 none ({ frames := 0, cells := 0, slots := 0, locals := 0 }) 0 0 [.ref (a 0)] [((a 0), .inr (8, (fX8 a (nI tx) fp (nI t0) wd (nI we) nu na (nI rd) ts (nI ru) (nI rw) (nI ca) df db sd))), (aI k (a 37) 4 (nF br)), (aI k (a 41) 4 (nF wb))] (fun (wb_ : (Nat → Nat)) => ∀ j, wb_ j ≤ 24) (fun (wb_ : (Nat → Nat)) => [((a 0), .inr (8, (fX8 a (nI tx) fp (nI t0) wd (nI we) nu na (nI rd) ts (nI ru) (nI rw) (nI ca) df db sd))), (aI k (a 37) 4 (nF br)), (aI k (a 41) 4 (nF wb_))]) := by
  intro sz
  refine Met.ofW (cc := cX8_holdBars) (maxL := 2) (ret := none) (by decide) rfl ?_
  intro p e s m args below meth c s₁ B hml hv
  obtain ⟨rfl, hsz, hlo, hP, hK, hDL, hZ⟩ := hv
  have hx := B.exec
  have hb := B.bytes
  have hr := B.returns
  have hts := WS_ts B.pre
  have hown : s.vm.findClass RX8 = some m.cls := findClass_of_methodNamed B.named
  have hlocks := B.notSynchronized
  subst hsz
  have hD := hDL.self (sz := s.heap.size)
  have hAlo := A_lo hDL hlo
  generalize hAe : va_A [((a 0), .inr (8, (fX8 a (nI tx) fp (nI t0) wd (nI we) nu na (nI rd) ts (nI ru) (nI rw) (nI ca) df db sd))), (aI k (a 37) 4 (nF br)), (aI k (a 41) 4 (nF wb))] s.heap.size = A at hD hAlo ⊢
  have hA : ∀ q : Nat, s.heap.size ≤ q → A q := fun q h => by rw [← hAe]; exact Or.inr h
  have hS : va_S A s.heap s.heap [] := va_S.rf
  have hl := lv_entry ([.ref (a 0)]) (n := 2) (Nat.le_of_ble_eq_true rfl)
  rw [lg_entry_eq]
  generalize (lg_sl ([.ref (a 0)]) ++ List.replicate (2 - (lg_sl ([.ref (a 0)])).length) Slot.unset).toArray = ls at hl ⊢
  have hl : lv_has ls 2 [(0, .ref (a 0))] := hl
  refine lv_iconst (v := 0) hx hb dX8_holdBars_0 (by decide) ?_
  refine lv_istore_n (lv' := [(1, .int 0), (0, .ref (a 0))]) hx hb dX8_holdBars_1 rfl hl (by decide) rfl (fun ls hl => ?_)
  refine lv_iload_n hx hb dX8_holdBars_2 rfl (lv_at hl 0 rfl) ?_
  refine lv_iconst (v := 4) hx hb dX8_holdBars_3 (by decide) ?_
  refine lv_icmp_ge (tgt := 25) hx hb dX8_holdBars_4 (by decide) (fun h => absurd h (by decide)) (fun _ => ?_)
  refine lv_aload_n hx hb dX8_holdBars_7 rfl (lv_at hl 1 rfl) ?_
  refine va_get (D := D) (ci := 8) (v := .ref (a 41)) (C := RX8) (T := TX8) (N := 44) hx hb hts inX8 hown hK hP 0 rfl rfl 40 (by decide) (hts _ tw_1013) (fun _ h9 => h9) rfl dX8_holdBars_8 ?_
  refine lv_iload_n hx hb dX8_holdBars_11 rfl (lv_at hl 0 rfl) ?_
  refine lv_aload_n hx hb dX8_holdBars_12 rfl (lv_at hl 1 rfl) ?_
  refine va_get (D := D) (ci := 8) (v := .ref (a 37)) (C := RX8) (T := TX8) (N := 44) hx hb hts inX8 hown hK hP 0 rfl rfl 36 (by decide) (hts _ tw_1009) (fun _ h9 => h9) rfl dX8_holdBars_13 ?_
  refine lv_iload_n hx hb dX8_holdBars_16 rfl (lv_at hl 0 rfl) ?_
  refine va_iald hx hb hK hP 1 1 rfl rfl (by unfold vp_in; decide) dX8_holdBars_17 ?_
  have hq_1 := hbr 0
  refine lv_ti (y := (nI (br 0))) (by rfl) ?_
  refine va_iast hx hb hK hP hD hS 2 1 rfl rfl (by unfold vp_in; decide) dX8_holdBars_18 (fun H locs hP hD hS => ?_)
  replace hP : va_P D classes [((a 0), .inr (8, (fX8 a (nI tx) fp (nI t0) wd (nI we) nu na (nI rd) ts (nI ru) (nI rw) (nI ca) df db sd))), (aI k (a 37) 4 (nF br)), (aI k (a 41) 4 (upd (nF wb) (Int32.toNatClampNeg 0) (nI (br 0))))] H := hP
  replace hD : va_D A [((a 0), .inr (8, (fX8 a (nI tx) fp (nI t0) wd (nI we) nu na (nI rd) ts (nI ru) (nI rw) (nI ca) df db sd))), (aI k (a 37) 4 (nF br)), (aI k (a 41) 4 (upd (nF wb) (Int32.toNatClampNeg 0) (nI (br 0))))] := hD
  rw [show upd (nF wb) (Int32.toNatClampNeg 0) (nI (br 0)) = nF (fun j => if j = 0 then br 0 else wb j) from nF_upd _ _ _] at hP hD
  obtain ⟨d_3, hd_3⟩ : ∃ z : Nat → Nat, z = (fun j => if j = 0 then br 0 else wb j) := ⟨_, rfl⟩
  rw [← hd_3] at hP hD
  have hbb_3 : ∀ j, d_3 j ≤ 24 := by rw [hd_3]; exact up_le hwb (by omega)
  refine lv_iinc (v := 1) (lv' := [(1, .int 1), (0, .ref (a 0))]) hx hb dX8_holdBars_19 hl (k := 0) rfl (by decide) (by decide) rfl (fun ls hl => ?_)
  refine lv_goto (tgt := 2) hx hb dX8_holdBars_22 (by decide) ?_
  refine lv_iload_n hx hb dX8_holdBars_2 rfl (lv_at hl 0 rfl) ?_
  refine lv_iconst (v := 4) hx hb dX8_holdBars_3 (by decide) ?_
  refine lv_icmp_ge (tgt := 25) hx hb dX8_holdBars_4 (by decide) (fun h => absurd h (by decide)) (fun _ => ?_)
  refine lv_aload_n hx hb dX8_holdBars_7 rfl (lv_at hl 1 rfl) ?_
  refine va_get (D := D) (ci := 8) (v := .ref (a 41)) (C := RX8) (T := TX8) (N := 44) hx hb hts inX8 hown hK hP 0 rfl rfl 40 (by decide) (hts _ tw_1013) (fun _ h9 => h9) rfl dX8_holdBars_8 ?_
  refine lv_iload_n hx hb dX8_holdBars_11 rfl (lv_at hl 0 rfl) ?_
  refine lv_aload_n hx hb dX8_holdBars_12 rfl (lv_at hl 1 rfl) ?_
  refine va_get (D := D) (ci := 8) (v := .ref (a 37)) (C := RX8) (T := TX8) (N := 44) hx hb hts inX8 hown hK hP 0 rfl rfl 36 (by decide) (hts _ tw_1009) (fun _ h9 => h9) rfl dX8_holdBars_13 ?_
  refine lv_iload_n hx hb dX8_holdBars_16 rfl (lv_at hl 0 rfl) ?_
  refine va_iald hx hb hK hP 1 1 rfl rfl (by unfold vp_in; decide) dX8_holdBars_17 ?_
  have hq_4 := hbr 1
  refine lv_ti (y := (nI (br 1))) (by rfl) ?_
  refine va_iast hx hb hK hP hD hS 2 1 rfl rfl (by unfold vp_in; decide) dX8_holdBars_18 (fun H locs hP hD hS => ?_)
  replace hP : va_P D classes [((a 0), .inr (8, (fX8 a (nI tx) fp (nI t0) wd (nI we) nu na (nI rd) ts (nI ru) (nI rw) (nI ca) df db sd))), (aI k (a 37) 4 (nF br)), (aI k (a 41) 4 (upd (nF d_3) (Int32.toNatClampNeg 1) (nI (br 1))))] H := hP
  replace hD : va_D A [((a 0), .inr (8, (fX8 a (nI tx) fp (nI t0) wd (nI we) nu na (nI rd) ts (nI ru) (nI rw) (nI ca) df db sd))), (aI k (a 37) 4 (nF br)), (aI k (a 41) 4 (upd (nF d_3) (Int32.toNatClampNeg 1) (nI (br 1))))] := hD
  rw [show upd (nF d_3) (Int32.toNatClampNeg 1) (nI (br 1)) = nF (fun j => if j = 1 then br 1 else d_3 j) from nF_upd _ _ _] at hP hD
  obtain ⟨d_6, hd_6⟩ : ∃ z : Nat → Nat, z = (fun j => if j = 1 then br 1 else d_3 j) := ⟨_, rfl⟩
  rw [← hd_6] at hP hD
  have hbb_6 : ∀ j, d_6 j ≤ 24 := by rw [hd_6]; exact up_le hbb_3 (by omega)
  refine lv_iinc (v := 2) (lv' := [(1, .int 2), (0, .ref (a 0))]) hx hb dX8_holdBars_19 hl (k := 0) rfl (by decide) (by decide) rfl (fun ls hl => ?_)
  refine lv_goto (tgt := 2) hx hb dX8_holdBars_22 (by decide) ?_
  refine lv_iload_n hx hb dX8_holdBars_2 rfl (lv_at hl 0 rfl) ?_
  refine lv_iconst (v := 4) hx hb dX8_holdBars_3 (by decide) ?_
  refine lv_icmp_ge (tgt := 25) hx hb dX8_holdBars_4 (by decide) (fun h => absurd h (by decide)) (fun _ => ?_)
  refine lv_aload_n hx hb dX8_holdBars_7 rfl (lv_at hl 1 rfl) ?_
  refine va_get (D := D) (ci := 8) (v := .ref (a 41)) (C := RX8) (T := TX8) (N := 44) hx hb hts inX8 hown hK hP 0 rfl rfl 40 (by decide) (hts _ tw_1013) (fun _ h9 => h9) rfl dX8_holdBars_8 ?_
  refine lv_iload_n hx hb dX8_holdBars_11 rfl (lv_at hl 0 rfl) ?_
  refine lv_aload_n hx hb dX8_holdBars_12 rfl (lv_at hl 1 rfl) ?_
  refine va_get (D := D) (ci := 8) (v := .ref (a 37)) (C := RX8) (T := TX8) (N := 44) hx hb hts inX8 hown hK hP 0 rfl rfl 36 (by decide) (hts _ tw_1009) (fun _ h9 => h9) rfl dX8_holdBars_13 ?_
  refine lv_iload_n hx hb dX8_holdBars_16 rfl (lv_at hl 0 rfl) ?_
  refine va_iald hx hb hK hP 1 1 rfl rfl (by unfold vp_in; decide) dX8_holdBars_17 ?_
  have hq_7 := hbr 2
  refine lv_ti (y := (nI (br 2))) (by rfl) ?_
  refine va_iast hx hb hK hP hD hS 2 1 rfl rfl (by unfold vp_in; decide) dX8_holdBars_18 (fun H locs hP hD hS => ?_)
  replace hP : va_P D classes [((a 0), .inr (8, (fX8 a (nI tx) fp (nI t0) wd (nI we) nu na (nI rd) ts (nI ru) (nI rw) (nI ca) df db sd))), (aI k (a 37) 4 (nF br)), (aI k (a 41) 4 (upd (nF d_6) (Int32.toNatClampNeg 2) (nI (br 2))))] H := hP
  replace hD : va_D A [((a 0), .inr (8, (fX8 a (nI tx) fp (nI t0) wd (nI we) nu na (nI rd) ts (nI ru) (nI rw) (nI ca) df db sd))), (aI k (a 37) 4 (nF br)), (aI k (a 41) 4 (upd (nF d_6) (Int32.toNatClampNeg 2) (nI (br 2))))] := hD
  rw [show upd (nF d_6) (Int32.toNatClampNeg 2) (nI (br 2)) = nF (fun j => if j = 2 then br 2 else d_6 j) from nF_upd _ _ _] at hP hD
  obtain ⟨d_9, hd_9⟩ : ∃ z : Nat → Nat, z = (fun j => if j = 2 then br 2 else d_6 j) := ⟨_, rfl⟩
  rw [← hd_9] at hP hD
  have hbb_9 : ∀ j, d_9 j ≤ 24 := by rw [hd_9]; exact up_le hbb_6 (by omega)
  refine lv_iinc (v := 3) (lv' := [(1, .int 3), (0, .ref (a 0))]) hx hb dX8_holdBars_19 hl (k := 0) rfl (by decide) (by decide) rfl (fun ls hl => ?_)
  refine lv_goto (tgt := 2) hx hb dX8_holdBars_22 (by decide) ?_
  refine lv_iload_n hx hb dX8_holdBars_2 rfl (lv_at hl 0 rfl) ?_
  refine lv_iconst (v := 4) hx hb dX8_holdBars_3 (by decide) ?_
  refine lv_icmp_ge (tgt := 25) hx hb dX8_holdBars_4 (by decide) (fun h => absurd h (by decide)) (fun _ => ?_)
  refine lv_aload_n hx hb dX8_holdBars_7 rfl (lv_at hl 1 rfl) ?_
  refine va_get (D := D) (ci := 8) (v := .ref (a 41)) (C := RX8) (T := TX8) (N := 44) hx hb hts inX8 hown hK hP 0 rfl rfl 40 (by decide) (hts _ tw_1013) (fun _ h9 => h9) rfl dX8_holdBars_8 ?_
  refine lv_iload_n hx hb dX8_holdBars_11 rfl (lv_at hl 0 rfl) ?_
  refine lv_aload_n hx hb dX8_holdBars_12 rfl (lv_at hl 1 rfl) ?_
  refine va_get (D := D) (ci := 8) (v := .ref (a 37)) (C := RX8) (T := TX8) (N := 44) hx hb hts inX8 hown hK hP 0 rfl rfl 36 (by decide) (hts _ tw_1009) (fun _ h9 => h9) rfl dX8_holdBars_13 ?_
  refine lv_iload_n hx hb dX8_holdBars_16 rfl (lv_at hl 0 rfl) ?_
  refine va_iald hx hb hK hP 1 1 rfl rfl (by unfold vp_in; decide) dX8_holdBars_17 ?_
  have hq_10 := hbr 3
  refine lv_ti (y := (nI (br 3))) (by rfl) ?_
  refine va_iast hx hb hK hP hD hS 2 1 rfl rfl (by unfold vp_in; decide) dX8_holdBars_18 (fun H locs hP hD hS => ?_)
  replace hP : va_P D classes [((a 0), .inr (8, (fX8 a (nI tx) fp (nI t0) wd (nI we) nu na (nI rd) ts (nI ru) (nI rw) (nI ca) df db sd))), (aI k (a 37) 4 (nF br)), (aI k (a 41) 4 (upd (nF d_9) (Int32.toNatClampNeg 3) (nI (br 3))))] H := hP
  replace hD : va_D A [((a 0), .inr (8, (fX8 a (nI tx) fp (nI t0) wd (nI we) nu na (nI rd) ts (nI ru) (nI rw) (nI ca) df db sd))), (aI k (a 37) 4 (nF br)), (aI k (a 41) 4 (upd (nF d_9) (Int32.toNatClampNeg 3) (nI (br 3))))] := hD
  rw [show upd (nF d_9) (Int32.toNatClampNeg 3) (nI (br 3)) = nF (fun j => if j = 3 then br 3 else d_9 j) from nF_upd _ _ _] at hP hD
  obtain ⟨d_12, hd_12⟩ : ∃ z : Nat → Nat, z = (fun j => if j = 3 then br 3 else d_9 j) := ⟨_, rfl⟩
  rw [← hd_12] at hP hD
  have hbb_12 : ∀ j, d_12 j ≤ 24 := by rw [hd_12]; exact up_le hbb_9 (by omega)
  refine lv_iinc (v := 4) (lv' := [(1, .int 4), (0, .ref (a 0))]) hx hb dX8_holdBars_19 hl (k := 0) rfl (by decide) (by decide) rfl (fun ls hl => ?_)
  refine lv_goto (tgt := 2) hx hb dX8_holdBars_22 (by decide) ?_
  refine lv_iload_n hx hb dX8_holdBars_2 rfl (lv_at hl 0 rfl) ?_
  refine lv_iconst (v := 4) hx hb dX8_holdBars_3 (by decide) ?_
  refine lv_icmp_ge (tgt := 25) hx hb dX8_holdBars_4 (by decide) (fun _ => ?_) (fun h => absurd (by decide) h)
  have hP9 := hP.sub (ws' := [((a 0), .inr (8, (fX8 a (nI tx) fp (nI t0) wd (nI we) nu na (nI rd) ts (nI ru) (nI rw) (nI ca) df db sd))), (aI k (a 37) 4 (nF br)), (aI k (a 41) 4 (nF d_12))]) [0, 1, 2] rfl
  have hD9 := hD.sub (ws' := [((a 0), .inr (8, (fX8 a (nI tx) fp (nI t0) wd (nI we) nu na (nI rd) ts (nI ru) (nI rw) (nI ca) df db sd))), (aI k (a 37) 4 (nF br)), (aI k (a 41) 4 (nF d_12))]) [0, 1, 2] (by decide) rfl
  exact W.vret hx hb hr (fun t ht hW => ⟨⟨d_12, rfl, hbb_12, by rw [ht]; exact hP9, hD9⟩, hS.F ht⟩) hS.2.2 dX8_holdBars_25


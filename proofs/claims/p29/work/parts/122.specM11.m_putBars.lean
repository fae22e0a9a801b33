theorem dX8_putBars_0 : decode cX8_putBars 0 = .ok (.iconst 0, 1) := by decide +kernel
theorem dX8_putBars_1 : decode cX8_putBars 1 = .ok (.istore_n 1, 1) := by decide +kernel
theorem dX8_putBars_2 : decode cX8_putBars 2 = .ok (.iload_n 1, 1) := by decide +kernel
theorem dX8_putBars_3 : decode cX8_putBars 3 = .ok (.iconst 4, 1) := by decide +kernel
theorem dX8_putBars_4 : decode cX8_putBars 4 = .ok (.if_icmp .ge 21, 3) := by decide +kernel
theorem dX8_putBars_7 : decode cX8_putBars 7 = .ok (.aload_n 0, 1) := by decide +kernel
theorem dX8_putBars_8 : decode cX8_putBars 8 = .ok (.getfield 87, 3) := by decide +kernel
theorem dX8_putBars_11 : decode cX8_putBars 11 = .ok (.iload_n 1, 1) := by decide +kernel
theorem dX8_putBars_12 : decode cX8_putBars 12 = .ok (.aload_n 0, 1) := by decide +kernel
theorem dX8_putBars_13 : decode cX8_putBars 13 = .ok (.getfield 93, 3) := by decide +kernel
theorem dX8_putBars_16 : decode cX8_putBars 16 = .ok (.iload_n 1, 1) := by decide +kernel
theorem dX8_putBars_17 : decode cX8_putBars 17 = .ok (.iaload, 1) := by decide +kernel
theorem dX8_putBars_18 : decode cX8_putBars 18 = .ok (.iastore, 1) := by decide +kernel
theorem dX8_putBars_19 : decode cX8_putBars 19 = .ok (.iinc 1 1, 3) := by decide +kernel
theorem dX8_putBars_22 : decode cX8_putBars 22 = .ok (.goto (-20), 3) := by decide +kernel
theorem dX8_putBars_25 : decode cX8_putBars 25 = .ok (.return_, 1) := by decide +kernel
set_option maxHeartbeats 4000000 in
set_option maxRecDepth 100000 in
theorem m_putBars (l : Launch) (D : va_G) (k : Nat → ClassId) (st : Nat → Nat) (lo : Nat) (a : Nat → Nat) (tx : Nat) (t0 : Nat) (we : Nat) (rd : Nat) (ru : Nat) (rw : Nat) (ca : Nat) (fp : Int32) (wd : Int64) (nu : Int32) (na : Int32) (ts : Int32) (df : Int32) (db : Int32) (sd : Int32) (wb : Nat → Nat) (br : Nat → Nat) (hbr : ∀ j, br j ≤ 24) (hwb : ∀ j, wb j ≤ 24) : CWv l D k st lo yX8_putBars cX8_putBars 2 none ({ frames := 0, cells := 0, slots := 0, locals := 0 }) 0 0 [.ref (a 0)] [((a 0), .inr (8, (fX8 a (nI tx) fp (nI t0) wd (nI we) nu na (nI rd) ts (nI ru) (nI rw) (nI ca) df db sd))), (aI k (a 41) 4 (nF wb)), (aI k (a 37) 4 (nF br))] (fun (br_ : (Nat → Nat)) => ∀ j, br_ j ≤ 24) (fun (br_ : (Nat → Nat)) => [((a 0), .inr (8, (fX8 a (nI tx) fp (nI t0) wd (nI we) nu na (nI rd) ts (nI ru) (nI rw) (nI ca) df db sd))), (aI k (a 41) 4 (nF wb)), (aI k (a 37) 4 (nF br_))]) := by
  intro sz
  refine Met.ofW (cc := cX8_putBars) (maxL := 2) (ret := none) (by decide) rfl ?_
  intro p e s m args below meth c s₁ B hml hv
  obtain ⟨rfl, hsz, hlo, hP, hK, hDL, hZ⟩ := hv
  have hx := B.exec
  have hb := B.bytes
  have hr := B.returns
  have hts := WS_ts B.pre
  have hown : s.vm.findClass RX8 = some m.cls := findClass_of_methodNamed B.named
  have hlocks := B.notSynchronized
  subst hsz
  have hD := hDL.self (sz := s.heap.size)
  have hAlo := A_lo hDL hlo
  generalize hAe : va_A [((a 0), .inr (8, (fX8 a (nI tx) fp (nI t0) wd (nI we) nu na (nI rd) ts (nI ru) (nI rw) (nI ca) df db sd))), (aI k (a 41) 4 (nF wb)), (aI k (a 37) 4 (nF br))] s.heap.size = A at hD hAlo ⊢
  have hA : ∀ q : Nat, s.heap.size ≤ q → A q := fun q h => by rw [← hAe]; exact Or.inr h
  have hS : va_S A s.heap s.heap [] := va_S.rf
  have hl := lv_entry ([.ref (a 0)]) (n := 2) (Nat.le_of_ble_eq_true rfl)
  rw [lg_entry_eq]
  generalize (lg_sl ([.ref (a 0)]) ++ List.replicate (2 - (lg_sl ([.ref (a 0)])).length) Slot.unset).toArray = ls at hl ⊢
  have hl : lv_has ls 2 [(0, .ref (a 0))] := hl
  refine lv_iconst (v := 0) hx hb dX8_putBars_0 (by decide) ?_
  refine lv_istore_n (lv' := [(1, .int 0), (0, .ref (a 0))]) hx hb dX8_putBars_1 rfl hl (by decide) rfl (fun ls hl => ?_)
  refine lv_iload_n hx hb dX8_putBars_2 rfl (lv_at hl 0 rfl) ?_
  refine lv_iconst (v := 4) hx hb dX8_putBars_3 (by decide) ?_
  refine lv_icmp_ge (tgt := 25) hx hb dX8_putBars_4 (by decide) (fun h => absurd h (by decide)) (fun _ => ?_)
  refine lv_aload_n hx hb dX8_putBars_7 rfl (lv_at hl 1 rfl) ?_
  refine va_get (D := D) (ci := 8) (v := .ref (a 37)) (C := RX8) (T := TX8) (N := 44) hx hb hts inX8 hown hK hP 0 rfl rfl 36 (by decide) (hts _ tw_1009) (fun _ h9 => h9) rfl dX8_putBars_8 ?_
  refine lv_iload_n hx hb dX8_putBars_11 rfl (lv_at hl 0 rfl) ?_
  refine lv_aload_n hx hb dX8_putBars_12 rfl (lv_at hl 1 rfl) ?_
  refine va_get (D := D) (ci := 8) (v := .ref (a 41)) (C := RX8) (T := TX8) (N := 44) hx hb hts inX8 hown hK hP 0 rfl rfl 40 (by decide) (hts _ tw_1013) (fun _ h9 => h9) rfl dX8_putBars_13 ?_
  refine lv_iload_n hx hb dX8_putBars_16 rfl (lv_at hl 0 rfl) ?_
  refine va_iald hx hb hK hP 1 1 rfl rfl (by unfold vp_in; decide) dX8_putBars_17 ?_
  have hq_1 := hwb 0
  refine lv_ti (y := (nI (wb 0))) (by rfl) ?_
  refine va_iast hx hb hK hP hD hS 2 1 rfl rfl (by unfold vp_in; decide) dX8_putBars_18 (fun H locs hP hD hS => ?_)
  replace hP : va_P D classes [((a 0), .inr (8, (fX8 a (nI tx) fp (nI t0) wd (nI we) nu na (nI rd) ts (nI ru) (nI rw) (nI ca) df db sd))), (aI k (a 41) 4 (nF wb)), (aI k (a 37) 4 (upd (nF br) (Int32.toNatClampNeg 0) (nI (wb 0))))] H := hP
  replace hD : va_D A [((a 0), .inr (8, (fX8 a (nI tx) fp (nI t0) wd (nI we) nu na (nI rd) ts (nI ru) (nI rw) (nI ca) df db sd))), (aI k (a 41) 4 (nF wb)), (aI k (a 37) 4 (upd (nF br) (Int32.toNatClampNeg 0) (nI (wb 0))))] := hD
  rw [show upd (nF br) (Int32.toNatClampNeg 0) (nI (wb 0)) = nF (fun j => if j = 0 then wb 0 else br j) from nF_upd _ _ _] at hP hD
  obtain ⟨d_3, hd_3⟩ : ∃ z : Nat → Nat, z = (fun j => if j = 0 then wb 0 else br j) := ⟨_, rfl⟩
  rw [← hd_3] at hP hD
  have hbb_3 : ∀ j, d_3 j ≤ 24 := by rw [hd_3]; exact up_le hbr (by omega)
  refine lv_iinc (v := 1) (lv' := [(1, .int 1), (0, .ref (a 0))]) hx hb dX8_putBars_19 hl (k := 0) rfl (by decide) (by decide) rfl (fun ls hl => ?_)
  refine lv_goto (tgt := 2) hx hb dX8_putBars_22 (by decide) ?_
  refine lv_iload_n hx hb dX8_putBars_2 rfl (lv_at hl 0 rfl) ?_
  refine lv_iconst (v := 4) hx hb dX8_putBars_3 (by decide) ?_
  refine lv_icmp_ge (tgt := 25) hx hb dX8_putBars_4 (by decide) (fun h => absurd h (by decide)) (fun _ => ?_)
  refine lv_aload_n hx hb dX8_putBars_7 rfl (lv_at hl 1 rfl) ?_
  refine va_get (D := D) (ci := 8) (v := .ref (a 37)) (C := RX8) (T := TX8) (N := 44) hx hb hts inX8 hown hK hP 0 rfl rfl 36 (by decide) (hts _ tw_1009) (fun _ h9 => h9) rfl dX8_putBars_8 ?_
  refine lv_iload_n hx hb dX8_putBars_11 rfl (lv_at hl 0 rfl) ?_
  refine lv_aload_n hx hb dX8_putBars_12 rfl (lv_at hl 1 rfl) ?_
  refine va_get (D := D) (ci := 8) (v := .ref (a 41)) (C := RX8) (T := TX8) (N := 44) hx hb hts inX8 hown hK hP 0 rfl rfl 40 (by decide) (hts _ tw_1013) (fun _ h9 => h9) rfl dX8_putBars_13 ?_
  refine lv_iload_n hx hb dX8_putBars_16 rfl (lv_at hl 0 rfl) ?_
  refine va_iald hx hb hK hP 1 1 rfl rfl (by unfold vp_in; decide) dX8_putBars_17 ?_
  have hq_4 := hwb 1
  refine lv_ti (y := (nI (wb 1))) (by rfl) ?_
  refine va_iast hx hb hK hP hD hS 2 1 rfl rfl (by unfold vp_in; decide) dX8_putBars_18 (fun H locs hP hD hS => ?_)
  replace hP : va_P D classes [((a 0), .inr (8, (fX8 a (nI tx) fp (nI t0) wd (nI we) nu na (nI rd) ts (nI ru) (nI rw) (nI ca) df db sd))), (aI k (a 41) 4 (nF wb)), (aI k (a 37) 4 (upd (nF d_3) (Int32.toNatClampNeg 1) (nI (wb 1))))] H := hP
  replace hD : va_D A [((a 0), .inr (8, (fX8 a (nI tx) fp (nI t0) wd (nI we) nu na (nI rd) ts (nI ru) (nI rw) (nI ca) df db sd))), (aI k (a 41) 4 (nF wb)), (aI k (a 37) 4 (upd (nF d_3) (Int32.toNatClampNeg 1) (nI (wb 1))))] := hD
  rw [show upd (nF d_3) (Int32.toNatClampNeg 1) (nI (wb 1)) = nF (fun j => if j = 1 then wb 1 else d_3 j) from nF_upd _ _ _] at hP hD
  obtain ⟨d_6, hd_6⟩ : ∃ z : Nat → Nat, z = (fun j => if j = 1 then wb 1 else d_3 j) := ⟨_, rfl⟩
  rw [← hd_6] at hP hD
  have hbb_6 : ∀ j, d_6 j ≤ 24 := by rw [hd_6]; exact up_le hbb_3 (by omega)
  refine lv_iinc (v := 2) (lv' := [(1, .int 2), (0, .ref (a 0))]) hx hb dX8_putBars_19 hl (k := 0) rfl (by decide) (by decide) rfl (fun ls hl => ?_)
  refine lv_goto (tgt := 2) hx hb dX8_putBars_22 (by decide) ?_
  refine lv_iload_n hx hb dX8_putBars_2 rfl (lv_at hl 0 rfl) ?_
  refine lv_iconst (v := 4) hx hb dX8_putBars_3 (by decide) ?_
  refine lv_icmp_ge (tgt := 25) hx hb dX8_putBars_4 (by decide) (fun h => absurd h (by decide)) (fun _ => ?_)
  refine lv_aload_n hx hb dX8_putBars_7 rfl (lv_at hl 1 rfl) ?_
  refine va_get (D := D) (ci := 8) (v := .ref (a 37)) (C := RX8) (T := TX8) (N := 44) hx hb hts inX8 hown hK hP 0 rfl rfl 36 (by decide) (hts _ tw_1009) (fun _ h9 => h9) rfl dX8_putBars_8 ?_
  refine lv_iload_n hx hb dX8_putBars_11 rfl (lv_at hl 0 rfl) ?_
  refine lv_aload_n hx hb dX8_putBars_12 rfl (lv_at hl 1 rfl) ?_
  refine va_get (D := D) (ci := 8) (v := .ref (a 41)) (C := RX8) (T := TX8) (N := 44) hx hb hts inX8 hown hK hP 0 rfl rfl 40 (by decide) (hts _ tw_1013) (fun _ h9 => h9) rfl dX8_putBars_13 ?_
  refine lv_iload_n hx hb dX8_putBars_16 rfl (lv_at hl 0 rfl) ?_
  refine va_iald hx hb hK hP 1 1 rfl rfl (by unfold vp_in; decide) dX8_putBars_17 ?_
  have hq_7 := hwb 2
  refine lv_ti (y := (nI (wb 2))) (by rfl) ?_
  refine va_iast hx hb hK hP hD hS 2 1 rfl rfl (by unfold vp_in; decide) dX8_putBars_18 (fun H locs hP hD hS => ?_)
  replace hP : va_P D classes [((a 0), .inr (8, (fX8 a (nI tx) fp (nI t0) wd (nI we) nu na (nI rd) ts (nI ru) (nI rw) (nI ca) df db sd))), (aI k (a 41) 4 (nF wb)), (aI k (a 37) 4 (upd (nF d_6) (Int32.toNatClampNeg 2) (nI (wb 2))))] H := hP
  replace hD : va_D A [((a 0), .inr (8, (fX8 a (nI tx) fp (nI t0) wd (nI we) nu na (nI rd) ts (nI ru) (nI rw) (nI ca) df db sd))), (aI k (a 41) 4 (nF wb)), (aI k (a 37) 4 (upd (nF d_6) (Int32.toNatClampNeg 2) (nI (wb 2))))] := hD
  rw [show upd (nF d_6) (Int32.toNatClampNeg 2) (nI (wb 2)) = nF (fun j => if j = 2 then wb 2 else d_6 j) from nF_upd _ _ _] at hP hD
  obtain ⟨d_9, hd_9⟩ : ∃ z : Nat → Nat, z = (fun j => if j = 2 then wb 2 else d_6 j) := ⟨_, rfl⟩
  rw [← hd_9] at hP hD
  have hbb_9 : ∀ j, d_9 j ≤ 24 := by rw [hd_9]; exact up_le hbb_6 (by omega)
  refine lv_iinc (v := 3) (lv' := [(1, .int 3), (0, .ref (a 0))]) hx hb dX8_putBars_19 hl (k := 0) rfl (by decide) (by decide) rfl (fun ls hl => ?_)
  refine lv_goto (tgt := 2) hx hb dX8_putBars_22 (by decide) ?_
  refine lv_iload_n hx hb dX8_putBars_2 rfl (lv_at hl 0 rfl) ?_
  refine lv_iconst (v := 4) hx hb dX8_putBars_3 (by decide) ?_
  refine lv_icmp_ge (tgt := 25) hx hb dX8_putBars_4 (by decide) (fun h => absurd h (by decide)) (fun _ => ?_)
  refine lv_aload_n hx hb dX8_putBars_7 rfl (lv_at hl 1 rfl) ?_
  refine va_get (D := D) (ci := 8) (v := .ref (a 37)) (C := RX8) (T := TX8) (N := 44) hx hb hts inX8 hown hK hP 0 rfl rfl 36 (by decide) (hts _ tw_1009) (fun _ h9 => h9) rfl dX8_putBars_8 ?_
  refine lv_iload_n hx hb dX8_putBars_11 rfl (lv_at hl 0 rfl) ?_
  refine lv_aload_n hx hb dX8_putBars_12 rfl (lv_at hl 1 rfl) ?_
  refine va_get (D := D) (ci := 8) (v := .ref (a 41)) (C := RX8) (T := TX8) (N := 44) hx hb hts inX8 hown hK hP 0 rfl rfl 40 (by decide) (hts _ tw_1013) (fun _ h9 => h9) rfl dX8_putBars_13 ?_
  refine lv_iload_n hx hb dX8_putBars_16 rfl (lv_at hl 0 rfl) ?_
  refine va_iald hx hb hK hP 1 1 rfl rfl (by unfold vp_in; decide) dX8_putBars_17 ?_
  have hq_10 := hwb 3
  refine lv_ti (y := (nI (wb 3))) (by rfl) ?_
  refine va_iast hx hb hK hP hD hS 2 1 rfl rfl (by unfold vp_in; decide) dX8_putBars_18 (fun H locs hP hD hS => ?_)
  replace hP : va_P D classes [((a 0), .inr (8, (fX8 a (nI tx) fp (nI t0) wd (nI we) nu na (nI rd) ts (nI ru) (nI rw) (nI ca) df db sd))), (aI k (a 41) 4 (nF wb)), (aI k (a 37) 4 (upd (nF d_9) (Int32.toNatClampNeg 3) (nI (wb 3))))] H := hP
  replace hD : va_D A [((a 0), .inr (8, (fX8 a (nI tx) fp (nI t0) wd (nI we) nu na (nI rd) ts (nI ru) (nI rw) (nI ca) df db sd))), (aI k (a 41) 4 (nF wb)), (aI k (a 37) 4 (upd (nF d_9) (Int32.toNatClampNeg 3) (nI (wb 3))))] := hD
  rw [show upd (nF d_9) (Int32.toNatClampNeg 3) (nI (wb 3)) = nF (fun j => if j = 3 then wb 3 else d_9 j) from nF_upd _ _ _] at hP hD
  obtain ⟨d_12, hd_12⟩ : ∃ z : Nat → Nat, z = (fun j => if j = 3 then wb 3 else d_9 j) := ⟨_, rfl⟩
  rw [← hd_12] at hP hD
  have hbb_12 : ∀ j, d_12 j ≤ 24 := by rw [hd_12]; exact up_le hbb_9 (by omega)
  refine lv_iinc (v := 4) (lv' := [(1, .int 4), (0, .ref (a 0))]) hx hb dX8_putBars_19 hl (k := 0) rfl (by decide) (by decide) rfl (fun ls hl => ?_)
  refine lv_goto (tgt := 2) hx hb dX8_putBars_22 (by decide) ?_
  refine lv_iload_n hx hb dX8_putBars_2 rfl (lv_at hl 0 rfl) ?_
  refine lv_iconst (v := 4) hx hb dX8_putBars_3 (by decide) ?_
  refine lv_icmp_ge (tgt := 25) hx hb dX8_putBars_4 (by decide) (fun _ => ?_) (fun h => absurd (by decide) h)
  have hP9 := hP.sub (ws' := [((a 0), .inr (8, (fX8 a (nI tx) fp (nI t0) wd (nI we) nu na (nI rd) ts (nI ru) (nI rw) (nI ca) df db sd))), (aI k (a 41) 4 (nF wb)), (aI k (a 37) 4 (nF d_12))]) [0, 1, 2] rfl
  have hD9 := hD.sub (ws' := [((a 0), .inr (8, (fX8 a (nI tx) fp (nI t0) wd (nI we) nu na (nI rd) ts (nI ru) (nI rw) (nI ca) df db sd))), (aI k (a 41) 4 (nF wb)), (aI k (a 37) 4 (nF d_12))]) [0, 1, 2] (by decide) rfl
  exact W.vret hx hb hr (fun t ht hW => ⟨⟨d_12, rfl, hbb_12, by rw [ht]; exact hP9, hD9⟩, hS.F ht⟩) hS.2.2 dX8_putBars_25

theorem dX8_isAtRest_0 : decode cX8_isAtRest 0 = .ok (.iconst 1, 1) := by decide +kernel
theorem dX8_isAtRest_1 : decode cX8_isAtRest 1 = .ok (.istore_n 3, 1) := by decide +kernel
theorem dX8_isAtRest_2 : decode cX8_isAtRest 2 = .ok (.iconst 0, 1) := by decide +kernel
theorem dX8_isAtRest_3 : decode cX8_isAtRest 3 = .ok (.istore 4, 2) := by decide +kernel
theorem dX8_isAtRest_5 : decode cX8_isAtRest 5 = .ok (.iload 4, 2) := by decide +kernel
theorem dX8_isAtRest_7 : decode cX8_isAtRest 7 = .ok (.aload_n 0, 1) := by decide +kernel
theorem dX8_isAtRest_8 : decode cX8_isAtRest 8 = .ok (.getfield 315, 3) := by decide +kernel
theorem dX8_isAtRest_11 : decode cX8_isAtRest 11 = .ok (.if_icmp .ge 37, 3) := by decide +kernel
theorem dX8_isAtRest_14 : decode cX8_isAtRest 14 = .ok (.iload_n 3, 1) := by decide +kernel
theorem dX8_isAtRest_15 : decode cX8_isAtRest 15 = .ok (.ifCond .eq 33, 3) := by decide +kernel
theorem dX8_isAtRest_18 : decode cX8_isAtRest 18 = .ok (.aload_n 0, 1) := by decide +kernel
theorem dX8_isAtRest_19 : decode cX8_isAtRest 19 = .ok (.iload_n 1, 1) := by decide +kernel
theorem dX8_isAtRest_20 : decode cX8_isAtRest 20 = .ok (.iload_n 2, 1) := by decide +kernel
theorem dX8_isAtRest_21 : decode cX8_isAtRest 21 = .ok (.iload 4, 2) := by decide +kernel
theorem dX8_isAtRest_23 : decode cX8_isAtRest 23 = .ok (.invokevirtual 339, 3) := by decide +kernel
theorem dX8_isAtRest_26 : decode cX8_isAtRest 26 = .ok (.aload_n 0, 1) := by decide +kernel
theorem dX8_isAtRest_27 : decode cX8_isAtRest 27 = .ok (.getfield 87, 3) := by decide +kernel
theorem dX8_isAtRest_30 : decode cX8_isAtRest 30 = .ok (.iload 4, 2) := by decide +kernel
theorem dX8_isAtRest_32 : decode cX8_isAtRest 32 = .ok (.iaload, 1) := by decide +kernel
theorem dX8_isAtRest_33 : decode cX8_isAtRest 33 = .ok (.if_icmp .ne 7, 3) := by decide +kernel
theorem dX8_isAtRest_36 : decode cX8_isAtRest 36 = .ok (.iconst 1, 1) := by decide +kernel
theorem dX8_isAtRest_37 : decode cX8_isAtRest 37 = .ok (.goto 4, 3) := by decide +kernel
theorem dX8_isAtRest_40 : decode cX8_isAtRest 40 = .ok (.iconst 0, 1) := by decide +kernel
theorem dX8_isAtRest_41 : decode cX8_isAtRest 41 = .ok (.istore_n 3, 1) := by decide +kernel
theorem dX8_isAtRest_42 : decode cX8_isAtRest 42 = .ok (.iinc 4 1, 3) := by decide +kernel
theorem dX8_isAtRest_45 : decode cX8_isAtRest 45 = .ok (.goto (-40), 3) := by decide +kernel
theorem dX8_isAtRest_48 : decode cX8_isAtRest 48 = .ok (.iload_n 3, 1) := by decide +kernel
theorem dX8_isAtRest_49 : decode cX8_isAtRest 49 = .ok (.ireturn, 1) := by decide +kernel
set_option maxHeartbeats 4000000 in
set_option maxRecDepth 100000 in
theorem m_isAtRest (l : Launch) (D : va_G) (k : Nat → ClassId) (st : Nat → Nat) (lo : Nat) (a : Nat → Nat) (tx : Nat) (t0 : Nat) (we : Nat) (rd : Nat) (ru : Nat) (rw : Nat) (ca : Nat) (fp : Int32) (wd : Int64) (nu : Int32) (na : Int32) (ts : Int32) (df : Int32) (db : Int32) (sd : Int32) (dn : Nat → Nat) (se : Nat → Nat) (tm : Nat → Nat) (gs : Nat → Int32) (fprices : Nat → Int32) (fwalks : Nat → Int32) (br : Nat → Nat) (fdoorsOf : Nat → Int32) (sn : Nat) (p1 : Int32) (hdn : ∀ j, dn j ≤ 24) (hca : ca ≤ 4) (hbr : ∀ j, br j ≤ 24) (hs : sn < 3) (hdv : dvOK fdoorsOf) : CWi l D k st lo yX8_isAtRest cX8_isAtRest 5 (some .boolean) ({ frames := 6, cells := 0, slots := 0, locals := 145 }) 0 0 [.ref (a 0), .int (nI sn), .int p1] [((a 0), .inr (8, (fX8 a (nI tx) fp (nI t0) wd (nI we) nu na (nI rd) ts (nI ru) (nI rw) (nI ca) df db sd))), (aI k (a 1) 3 (nF dn)), (aI k (a 4) 27 (sg se tm gs)), (aI k (a 3) 72 fprices), (aI k (a 36) 4 fwalks), (aI k (a 37) 4 (nF br)), (aI k (a 40) 4 fdoorsOf)] (fun (r : Int32) (u : (Nat → Nat) × (Nat → Int32)) => match u with | (br_, fdoorsOf_) => (∀ j, br_ j ≤ 24) ∧ dvOK fdoorsOf_) (fun (u : (Nat → Nat) × (Nat → Int32)) => match u with | (br_, fdoorsOf_) => [((a 0), .inr (8, (fX8 a (nI tx) fp (nI t0) wd (nI we) nu na (nI rd) ts (nI ru) (nI rw) (nI ca) df db sd))), (aI k (a 1) 3 (nF dn)), (aI k (a 4) 27 (sg se tm gs)), (aI k (a 3) 72 fprices), (aI k (a 36) 4 fwalks), (aI k (a 37) 4 (nF br_)), (aI k (a 40) 4 fdoorsOf_)]) := by
  intro sz
  refine Met.ofW (cc := cX8_isAtRest) (maxL := 5) (ret := (some .boolean)) (by decide) rfl ?_
  intro p e s m args below meth c s₁ B hml hv
  obtain ⟨rfl, hsz, hlo, hP, hK, hDL, hZ⟩ := hv
  have hx := B.exec
  have hb := B.bytes
  have hr := B.returns
  have hts := WS_ts B.pre
  have hown : s.vm.findClass RX8 = some m.cls := findClass_of_methodNamed B.named
  have hlocks := B.notSynchronized
  subst hsz
  have hD := hDL.self (sz := s.heap.size)
  have hAlo := A_lo hDL hlo
  generalize hAe : va_A [((a 0), .inr (8, (fX8 a (nI tx) fp (nI t0) wd (nI we) nu na (nI rd) ts (nI ru) (nI rw) (nI ca) df db sd))), (aI k (a 1) 3 (nF dn)), (aI k (a 4) 27 (sg se tm gs)), (aI k (a 3) 72 fprices), (aI k (a 36) 4 fwalks), (aI k (a 37) 4 (nF br)), (aI k (a 40) 4 fdoorsOf)] s.heap.size = A at hD hAlo ⊢
  have hA : ∀ q : Nat, s.heap.size ≤ q → A q := fun q h => by rw [← hAe]; exact Or.inr h
  have hS : va_S A s.heap s.heap [] := va_S.rf
  have hl := lv_entry ([.ref (a 0), .int (nI sn), .int p1]) (n := 5) (Nat.le_of_ble_eq_true rfl)
  rw [lg_entry_eq]
  generalize (lg_sl ([.ref (a 0), .int (nI sn), .int p1]) ++ List.replicate (5 - (lg_sl ([.ref (a 0), .int (nI sn), .int p1])).length) Slot.unset).toArray = ls at hl ⊢
  have hl : lv_has ls 5 [(0, .ref (a 0)), (1, .int (nI sn)), (2, .int p1)] := hl
  refine lv_iconst (v := 1) hx hb dX8_isAtRest_0 (by decide) ?_
  refine lv_istore_n (lv' := [(3, .int 1), (0, .ref (a 0)), (1, .int (nI sn)), (2, .int p1)]) hx hb dX8_isAtRest_1 rfl hl (by decide) rfl (fun ls hl => ?_)
  refine lv_iconst (v := 0) hx hb dX8_isAtRest_2 (by decide) ?_
  refine lv_istore (lv' := [(4, .int 0), (3, .int 1), (0, .ref (a 0)), (1, .int (nI sn)), (2, .int p1)]) hx hb dX8_isAtRest_3 hl (by decide) rfl (fun ls hl => ?_)
  refine W_loop (σ := Nat × Int32 × (Nat → Nat) × (Nat → Int32)) (fun (n_ : Nat) (x_ : Nat × Int32 × (Nat → Nat) × (Nat → Int32)) (H : Heap) (locs : List Loc) (ls : Array Slot) => match x_ with | (cc_1, is_1, b2_1, fd_1) => n_ = 4 - cc_1 ∧ ((cc_1 ≤ 4 ∧ (is_1 = 1 ∨ is_1 = 0)) ∧ (∀ j, b2_1 j ≤ 24) ∧ dvOK fd_1) ∧ va_P D classes [((a 0), .inr (8, (fX8 a (nI tx) fp (nI t0) wd (nI we) nu na (nI rd) ts (nI ru) (nI rw) (nI ca) df db sd))), (aI k (a 1) 3 (nF dn)), (aI k (a 4) 27 (sg se tm gs)), (aI k (a 3) 72 fprices), (aI k (a 36) 4 fwalks), (aI k (a 37) 4 (nF b2_1)), (aI k (a 40) 4 fd_1)] H ∧ va_D A [((a 0), .inr (8, (fX8 a (nI tx) fp (nI t0) wd (nI we) nu na (nI rd) ts (nI ru) (nI rw) (nI ca) df db sd))), (aI k (a 1) 3 (nF dn)), (aI k (a 4) 27 (sg se tm gs)), (aI k (a 3) 72 fprices), (aI k (a 36) 4 fwalks), (aI k (a 37) 4 (nF b2_1)), (aI k (a 40) 4 fd_1)] ∧ va_S A s.heap H locs ∧ lv_has ls 5 [(4, .int (nI cc_1)), (3, .int is_1), (0, .ref (a 0)), (1, .int (nI sn)), (2, .int p1)]) (fun n_1 x_1 H locs ls hI ih_1 => ?_) _ (0, 1, br, fdoorsOf) ⟨rfl, ⟨⟨by omega, .inl rfl⟩, hbr, hdv⟩, hP, hD, hS, (lv_sub hl [0, 1, 2, 3, 4] rfl)⟩
  obtain ⟨cc_1, is_1, b2_1, fd_1⟩ := x_1
  obtain ⟨hm_1, hv_1, hP, hD, hS, hl⟩ := hI
  subst hm_1
  have hbl_1 := hv_1.2.1
  have hdvl_1 := hv_1.2.2
  refine lv_iload hx hb dX8_isAtRest_5 (lv_at hl 0 rfl) ?_
  refine lv_aload_n hx hb dX8_isAtRest_7 rfl (lv_at hl 2 rfl) ?_
  refine va_get (D := D) (ci := 8) (v := .int (nI ca)) (C := RX8) (T := TX8) (N := 44) hx hb hts inX8 hown hK hP 0 rfl rfl 34 (by decide) (hts _ tw_1007) (fun _ h9 => h9) rfl dX8_isAtRest_8 ?_
  refine lv_icmp_ge (tgt := 48) hx hb dX8_isAtRest_11 (by decide) (fun c_2 => ?_) (fun c_2 => ?_)
  · have c_2 := (nI_leI (a := ca) (b := cc_1) (by omega) (by omega)).mp c_2
    refine lv_iload_n hx hb dX8_isAtRest_48 rfl (lv_at hl 1 rfl) ?_
    rcases hv_1.1.2 with hE_9 | hE_9
    · refine lv_ti (y := 1) hE_9 ?_
      have hP9 := hP.sub (ws' := [((a 0), .inr (8, (fX8 a (nI tx) fp (nI t0) wd (nI we) nu na (nI rd) ts (nI ru) (nI rw) (nI ca) df db sd))), (aI k (a 1) 3 (nF dn)), (aI k (a 4) 27 (sg se tm gs)), (aI k (a 3) 72 fprices), (aI k (a 36) 4 fwalks), (aI k (a 37) 4 (nF b2_1)), (aI k (a 40) 4 fd_1)]) [0, 1, 2, 3, 4, 5, 6] rfl
      have hD9 := hD.sub (ws' := [((a 0), .inr (8, (fX8 a (nI tx) fp (nI t0) wd (nI we) nu na (nI rd) ts (nI ru) (nI rw) (nI ca) df db sd))), (aI k (a 1) 3 (nF dn)), (aI k (a 4) 27 (sg se tm gs)), (aI k (a 3) 72 fprices), (aI k (a 36) 4 fwalks), (aI k (a 37) 4 (nF b2_1)), (aI k (a 40) 4 fd_1)]) [0, 1, 2, 3, 4, 5, 6] (by decide) rfl
      exact W.zret (v := 1) (ty := .boolean) hx hb hr rfl (fun t ht hW => ⟨⟨1, (b2_1, fd_1), rfl, ⟨hbl_1, hdvl_1⟩, by rw [ht]; exact hP9, hD9⟩, hS.F ht⟩) hS.2.2 dX8_isAtRest_49
    · refine lv_ti (y := 0) hE_9 ?_
      have hP9 := hP.sub (ws' := [((a 0), .inr (8, (fX8 a (nI tx) fp (nI t0) wd (nI we) nu na (nI rd) ts (nI ru) (nI rw) (nI ca) df db sd))), (aI k (a 1) 3 (nF dn)), (aI k (a 4) 27 (sg se tm gs)), (aI k (a 3) 72 fprices), (aI k (a 36) 4 fwalks), (aI k (a 37) 4 (nF b2_1)), (aI k (a 40) 4 fd_1)]) [0, 1, 2, 3, 4, 5, 6] rfl
      have hD9 := hD.sub (ws' := [((a 0), .inr (8, (fX8 a (nI tx) fp (nI t0) wd (nI we) nu na (nI rd) ts (nI ru) (nI rw) (nI ca) df db sd))), (aI k (a 1) 3 (nF dn)), (aI k (a 4) 27 (sg se tm gs)), (aI k (a 3) 72 fprices), (aI k (a 36) 4 fwalks), (aI k (a 37) 4 (nF b2_1)), (aI k (a 40) 4 fd_1)]) [0, 1, 2, 3, 4, 5, 6] (by decide) rfl
      exact W.zret (v := 0) (ty := .boolean) hx hb hr rfl (fun t ht hW => ⟨⟨0, (b2_1, fd_1), rfl, ⟨hbl_1, hdvl_1⟩, by rw [ht]; exact hP9, hD9⟩, hS.F ht⟩) hS.2.2 dX8_isAtRest_49
  · have c_2 : ¬ (ca ≤ cc_1) := fun h => c_2 ((nI_leI (a := ca) (b := cc_1) (by omega) (by omega)).mpr h)
    refine lv_iload_n hx hb dX8_isAtRest_14 rfl (lv_at hl 1 rfl) ?_
    refine lv_if_eq (tgt := 48) hx hb dX8_isAtRest_15 (by decide) (fun c_3 => ?_) (fun c_3 => ?_)
    · refine lv_iload_n hx hb dX8_isAtRest_48 rfl (lv_at hl 1 rfl) ?_
      rcases hv_1.1.2 with hE_9 | hE_9
      · refine lv_ti (y := 1) hE_9 ?_
        have hP9 := hP.sub (ws' := [((a 0), .inr (8, (fX8 a (nI tx) fp (nI t0) wd (nI we) nu na (nI rd) ts (nI ru) (nI rw) (nI ca) df db sd))), (aI k (a 1) 3 (nF dn)), (aI k (a 4) 27 (sg se tm gs)), (aI k (a 3) 72 fprices), (aI k (a 36) 4 fwalks), (aI k (a 37) 4 (nF b2_1)), (aI k (a 40) 4 fd_1)]) [0, 1, 2, 3, 4, 5, 6] rfl
        have hD9 := hD.sub (ws' := [((a 0), .inr (8, (fX8 a (nI tx) fp (nI t0) wd (nI we) nu na (nI rd) ts (nI ru) (nI rw) (nI ca) df db sd))), (aI k (a 1) 3 (nF dn)), (aI k (a 4) 27 (sg se tm gs)), (aI k (a 3) 72 fprices), (aI k (a 36) 4 fwalks), (aI k (a 37) 4 (nF b2_1)), (aI k (a 40) 4 fd_1)]) [0, 1, 2, 3, 4, 5, 6] (by decide) rfl
        exact W.zret (v := 1) (ty := .boolean) hx hb hr rfl (fun t ht hW => ⟨⟨1, (b2_1, fd_1), rfl, ⟨hbl_1, hdvl_1⟩, by rw [ht]; exact hP9, hD9⟩, hS.F ht⟩) hS.2.2 dX8_isAtRest_49
      · refine lv_ti (y := 0) hE_9 ?_
        have hP9 := hP.sub (ws' := [((a 0), .inr (8, (fX8 a (nI tx) fp (nI t0) wd (nI we) nu na (nI rd) ts (nI ru) (nI rw) (nI ca) df db sd))), (aI k (a 1) 3 (nF dn)), (aI k (a 4) 27 (sg se tm gs)), (aI k (a 3) 72 fprices), (aI k (a 36) 4 fwalks), (aI k (a 37) 4 (nF b2_1)), (aI k (a 40) 4 fd_1)]) [0, 1, 2, 3, 4, 5, 6] rfl
        have hD9 := hD.sub (ws' := [((a 0), .inr (8, (fX8 a (nI tx) fp (nI t0) wd (nI we) nu na (nI rd) ts (nI ru) (nI rw) (nI ca) df db sd))), (aI k (a 1) 3 (nF dn)), (aI k (a 4) 27 (sg se tm gs)), (aI k (a 3) 72 fprices), (aI k (a 36) 4 fwalks), (aI k (a 37) 4 (nF b2_1)), (aI k (a 40) 4 fd_1)]) [0, 1, 2, 3, 4, 5, 6] (by decide) rfl
        exact W.zret (v := 0) (ty := .boolean) hx hb hr rfl (fun t ht hW => ⟨⟨0, (b2_1, fd_1), rfl, ⟨hbl_1, hdvl_1⟩, by rw [ht]; exact hP9, hD9⟩, hS.F ht⟩) hS.2.2 dX8_isAtRest_49
    · refine lv_aload_n hx hb dX8_isAtRest_18 rfl (lv_at hl 2 rfl) ?_
      refine lv_iload_n hx hb dX8_isAtRest_19 rfl (lv_at hl 3 rfl) ?_
      refine lv_iload_n hx hb dX8_isAtRest_20 rfl (lv_at hl 4 rfl) ?_
      refine lv_iload hx hb dX8_isAtRest_21 (lv_at hl 0 rfl) ?_
      refine rw_i (D := D) (wr := []) (va_runV (As := [.int (nI sn), .int p1, .int (nI cc_1)]) (rest := []) ⟨hx, hb, hml, hown, hts⟩ ((m_bestBar l D k st lo a tx t0 we rd ru rw ca fp wd nu na ts df db sd dn se tm gs fprices fwalks b2_1 fd_1 sn cc_1 p1 hdn (by first | assumption | omega) hbl_1 (by first | assumption | omega) (by first | assumption | omega) hdvl_1) H.size) (cwV 3 hts (gV tw_1414 tw_1416 tw_69 tw_87 tw_1417) rfl rfl rfl (by decide +kernel) ⟨Nat.le_of_ble_eq_true rfl, Nat.le_of_ble_eq_true rfl⟩) (pV hS hAlo hlo hP hK (va_Dlo hD hAlo) hZ [0, 1, 2, 3, 4, 5, 6] (by decide) rfl (ci := 8) (q := (RX8, TX8, 44)) (q0 := 0) rfl rfl) rfl rfl hl.1 rfl (lv_room (Nat.le_of_ble_eq_true rfl)) dX8_isAtRest_23 ⟨Nat.le_of_ble_eq_true rfl, Nat.le_of_ble_eq_true rfl⟩) hS hA hP hD [0, 1, 2, 3, 4, 5, 6] [] rfl rfl (by decide) (by decide) (fun r_4 u H locs hw_4 hP hD hS => ?_)
      obtain ⟨br__4, fdoorsOf__4, er_4⟩ := u
      replace hP : va_P D classes [((a 0), .inr (8, (fX8 a (nI tx) fp (nI t0) wd (nI we) nu na (nI rd) ts (nI ru) (nI rw) (nI ca) df db sd))), (aI k (a 1) 3 (nF dn)), (aI k (a 4) 27 (sg se tm gs)), (aI k (a 3) 72 fprices), (aI k (a 36) 4 fwalks), (aI k (a 37) 4 (nF br__4)), (aI k (a 40) 4 fdoorsOf__4)] H := hP
      replace hD : va_D A [((a 0), .inr (8, (fX8 a (nI tx) fp (nI t0) wd (nI we) nu na (nI rd) ts (nI ru) (nI rw) (nI ca) df db sd))), (aI k (a 1) 3 (nF dn)), (aI k (a 4) 27 (sg se tm gs)), (aI k (a 3) 72 fprices), (aI k (a 36) 4 fwalks), (aI k (a 37) 4 (nF br__4)), (aI k (a 40) 4 fdoorsOf__4)] := hD
      try dsimp only at hw_4
      obtain ⟨rfl, hw_4⟩ := hw_4
      refine lv_aload_n hx hb dX8_isAtRest_26 rfl (lv_at hl 2 rfl) ?_
      refine va_get (D := D) (ci := 8) (v := .ref (a 37)) (C := RX8) (T := TX8) (N := 44) hx hb hts inX8 hown hK hP 0 rfl rfl 36 (by decide) (hts _ tw_1009) (fun _ h9 => h9) rfl dX8_isAtRest_27 ?_
      refine lv_iload hx hb dX8_isAtRest_30 (lv_at hl 0 rfl) ?_
      refine va_iald hx hb hK hP 5 1 rfl rfl (vp_in_nI (by omega) (by decide)) dX8_isAtRest_32 ?_
      have hq_5 := hw_4.2.1 cc_1
      refine lv_ti (y := (nI (br__4 cc_1))) (by rw [nI_clamp (by omega)]; rfl) ?_
      refine lv_icmp_ne (tgt := 40) hx hb dX8_isAtRest_33 (by decide) (fun c_6 => ?_) (fun c_6 => ?_)
      · have c_6 : ¬ (er_4 = (br__4 cc_1)) := fun h => c_6 ((nI_eq (a := er_4) (b := (br__4 cc_1)) (by omega) (by omega)).mpr h)
        refine lv_iconst (v := 0) hx hb dX8_isAtRest_40 (by decide) ?_
        refine lv_istore_n (lv' := [(3, .int 0), (4, .int (nI cc_1)), (0, .ref (a 0)), (1, .int (nI sn)), (2, .int p1)]) hx hb dX8_isAtRest_41 rfl hl (by decide) rfl (fun ls hl => ?_)
        refine lv_iinc (v := (nI (cc_1 + 1))) (lv' := [(4, .int (nI (cc_1 + 1))), (3, .int 0), (0, .ref (a 0)), (1, .int (nI sn)), (2, .int p1)]) hx hb dX8_isAtRest_42 hl (k := 1) rfl (nI_add cc_1 1) (by decide) rfl (fun ls hl => ?_)
        refine lv_goto (tgt := 5) hx hb dX8_isAtRest_45 (by decide) ?_
        exact ih_1 _ (cc_1 + 1, 0, br__4, fdoorsOf__4) _ _ _ (by omega) ⟨rfl, ⟨⟨by omega, .inr rfl⟩, hw_4.2.1, hw_4.2.2⟩, hP, hD, hS, (lv_sub hl [0, 1, 2, 3, 4] rfl)⟩
      · have c_6 := (nI_eq (a := er_4) (b := (br__4 cc_1)) (by omega) (by omega)).mp c_6
        refine lv_iconst (v := 1) hx hb dX8_isAtRest_36 (by decide) ?_
        refine lv_goto (tgt := 41) hx hb dX8_isAtRest_37 (by decide) ?_
        refine lv_istore_n (lv' := [(3, .int 1), (4, .int (nI cc_1)), (0, .ref (a 0)), (1, .int (nI sn)), (2, .int p1)]) hx hb dX8_isAtRest_41 rfl hl (by decide) rfl (fun ls hl => ?_)
        refine lv_iinc (v := (nI (cc_1 + 1))) (lv' := [(4, .int (nI (cc_1 + 1))), (3, .int 1), (0, .ref (a 0)), (1, .int (nI sn)), (2, .int p1)]) hx hb dX8_isAtRest_42 hl (k := 1) rfl (nI_add cc_1 1) (by decide) rfl (fun ls hl => ?_)
        refine lv_goto (tgt := 5) hx hb dX8_isAtRest_45 (by decide) ?_
        exact ih_1 _ (cc_1 + 1, 1, br__4, fdoorsOf__4) _ _ _ (by omega) ⟨rfl, ⟨⟨by omega, .inl rfl⟩, hw_4.2.1, hw_4.2.2⟩, hP, hD, hS, (lv_sub hl [0, 1, 2, 3, 4] rfl)⟩

theorem dX8_rests_0 : decode cX8_rests 0 = .ok (.aload_n 0, 1) := by decide +kernel
theorem dX8_rests_1 : decode cX8_rests 1 = .ok (.iload_n 1, 1) := by decide +kernel
theorem dX8_rests_2 : decode cX8_rests 2 = .ok (.invokevirtual 206, 3) := by decide +kernel
theorem dX8_rests_5 : decode cX8_rests 5 = .ok (.ifCond .ne 7, 3) := by decide +kernel
theorem dX8_rests_8 : decode cX8_rests 8 = .ok (.sipush (-1001), 3) := by decide +kernel
theorem dX8_rests_11 : decode cX8_rests 11 = .ok (.ireturn, 1) := by decide +kernel
theorem dX8_rests_12 : decode cX8_rests 12 = .ok (.aload_n 0, 1) := by decide +kernel
theorem dX8_rests_13 : decode cX8_rests 13 = .ok (.iload_n 1, 1) := by decide +kernel
theorem dX8_rests_14 : decode cX8_rests 14 = .ok (.iload_n 2, 1) := by decide +kernel
theorem dX8_rests_15 : decode cX8_rests 15 = .ok (.invokevirtual 333, 3) := by decide +kernel
theorem dX8_rests_18 : decode cX8_rests 18 = .ok (.ifCond .ne 9, 3) := by decide +kernel
theorem dX8_rests_21 : decode cX8_rests 21 = .ok (.sipush (-1002), 3) := by decide +kernel
theorem dX8_rests_24 : decode cX8_rests 24 = .ok (.goto 17, 3) := by decide +kernel
theorem dX8_rests_27 : decode cX8_rests 27 = .ok (.aload_n 0, 1) := by decide +kernel
theorem dX8_rests_28 : decode cX8_rests 28 = .ok (.iload_n 1, 1) := by decide +kernel
theorem dX8_rests_29 : decode cX8_rests 29 = .ok (.iload_n 2, 1) := by decide +kernel
theorem dX8_rests_30 : decode cX8_rests 30 = .ok (.invokevirtual 342, 3) := by decide +kernel
theorem dX8_rests_33 : decode cX8_rests 33 = .ok (.ifCond .eq 7, 3) := by decide +kernel
theorem dX8_rests_36 : decode cX8_rests 36 = .ok (.iconst 1, 1) := by decide +kernel
theorem dX8_rests_37 : decode cX8_rests 37 = .ok (.goto 4, 3) := by decide +kernel
theorem dX8_rests_40 : decode cX8_rests 40 = .ok (.iconst 0, 1) := by decide +kernel
theorem dX8_rests_41 : decode cX8_rests 41 = .ok (.ireturn, 1) := by decide +kernel
set_option maxHeartbeats 4000000 in
set_option maxRecDepth 100000 in
theorem m_rests (l : Launch) (D : va_G) (k : Nat → ClassId) (st : Nat → Nat) (lo : Nat) (a : Nat → Nat) (tx : Nat) (t0 : Nat) (we : Nat) (rd : Nat) (ru : Nat) (rw : Nat) (ca : Nat) (fp : Int32) (wd : Int64) (nu : Int32) (na : Int32) (ts : Int32) (df : Int32) (db : Int32) (sd : Int32) (dn : Nat → Nat) (se : Nat → Nat) (tm : Nat → Nat) (gs : Nat → Int32) (fprices : Nat → Int32) (fwalks : Nat → Int32) (br : Nat → Nat) (fdoorsOf : Nat → Int32) (p0 : Int32) (p1 : Int32) (hdn : ∀ j, dn j ≤ 24) (hca : ca ≤ 4) (hbr : ∀ j, br j ≤ 24) (hdv : dvOK fdoorsOf) : CWi l D k st lo yX8_rests cX8_rests 3 (some .int) ({ frames := 7, cells := 0, slots := 0, locals := 169 }) 0 0 [.ref (a 0), .int p0, .int p1] [((a 0), .inr (8, (fX8 a (nI tx) fp (nI t0) wd (nI we) nu na (nI rd) ts (nI ru) (nI rw) (nI ca) df db sd))), (aI k (a 1) 3 (nF dn)), (aI k (a 4) 27 (sg se tm gs)), (aI k (a 3) 72 fprices), (aI k (a 36) 4 fwalks), (aI k (a 37) 4 (nF br)), (aI k (a 40) 4 fdoorsOf)] (fun (r : Int32) (u : (Nat → Nat) × (Nat → Int32)) => match u with | (br_, fdoorsOf_) => (∀ j, br_ j ≤ 24) ∧ dvOK fdoorsOf_) (fun (u : (Nat → Nat) × (Nat → Int32)) => match u with | (br_, fdoorsOf_) => [((a 0), .inr (8, (fX8 a (nI tx) fp (nI t0) wd (nI we) nu na (nI rd) ts (nI ru) (nI rw) (nI ca) df db sd))), (aI k (a 1) 3 (nF dn)), (aI k (a 4) 27 (sg se tm gs)), (aI k (a 3) 72 fprices), (aI k (a 36) 4 fwalks), (aI k (a 37) 4 (nF br_)), (aI k (a 40) 4 fdoorsOf_)]) := by
  intro sz
  refine Met.ofW (cc := cX8_rests) (maxL := 3) (ret := (some .int)) (by decide) rfl ?_
  intro p e s m args below meth c s₁ B hml hv
  obtain ⟨rfl, hsz, hlo, hP, hK, hDL, hZ⟩ := hv
  have hx := B.exec
  have hb := B.bytes
  have hr := B.returns
  have hts := WS_ts B.pre
  have hown : s.vm.findClass RX8 = some m.cls := findClass_of_methodNamed B.named
  have hlocks := B.notSynchronized
  subst hsz
  have hD := hDL.self (sz := s.heap.size)
  have hAlo := A_lo hDL hlo
  generalize hAe : va_A [((a 0), .inr (8, (fX8 a (nI tx) fp (nI t0) wd (nI we) nu na (nI rd) ts (nI ru) (nI rw) (nI ca) df db sd))), (aI k (a 1) 3 (nF dn)), (aI k (a 4) 27 (sg se tm gs)), (aI k (a 3) 72 fprices), (aI k (a 36) 4 fwalks), (aI k (a 37) 4 (nF br)), (aI k (a 40) 4 fdoorsOf)] s.heap.size = A at hD hAlo ⊢
  have hA : ∀ q : Nat, s.heap.size ≤ q → A q := fun q h => by rw [← hAe]; exact Or.inr h
  have hS : va_S A s.heap s.heap [] := va_S.rf
  have hl := lv_entry ([.ref (a 0), .int p0, .int p1]) (n := 3) (Nat.le_of_ble_eq_true rfl)
  rw [lg_entry_eq]
  generalize (lg_sl ([.ref (a 0), .int p0, .int p1]) ++ List.replicate (3 - (lg_sl ([.ref (a 0), .int p0, .int p1])).length) Slot.unset).toArray = ls at hl ⊢
  have hl : lv_has ls 3 [(0, .ref (a 0)), (1, .int p0), (2, .int p1)] := hl
  refine lv_aload_n hx hb dX8_rests_0 rfl (lv_at hl 0 rfl) ?_
  refine lv_iload_n hx hb dX8_rests_1 rfl (lv_at hl 1 rfl) ?_
  refine ro_i (D := D) (va_runV (As := [.int p0]) (rest := []) ⟨hx, hb, hml, hown, hts⟩ ((m_isStreet l D k st lo a tx t0 we rd ru rw ca fp wd nu na ts df db sd dn p0 hdn) s.heap.size) (cwV 1 hts (gV tw_1189 tw_1191 tw_38 tw_87 tw_1192) rfl rfl rfl (by decide +kernel) ⟨Nat.le_of_ble_eq_true rfl, Nat.le_of_ble_eq_true rfl⟩) (pV hS hAlo hlo hP hK (va_Dlo hD hAlo) hZ [0, 1] (by decide) rfl (ci := 8) (q := (RX8, TX8, 44)) (q0 := 0) rfl rfl) rfl rfl hl.1 rfl (lv_room (Nat.le_of_ble_eq_true rfl)) dX8_rests_2 ⟨Nat.le_of_ble_eq_true rfl, Nat.le_of_ble_eq_true rfl⟩) hS hA hP (fun r_1 H locs hw_1 hP hS => ?_)
  try dsimp only at hw_1
  rcases hw_1 with ⟨rfl, j_2, hj_2, rfl, hw_1⟩ | rfl
  · have hdj_2 := hdn j_2
    refine lv_if_ne (tgt := 12) hx hb dX8_rests_5 (by decide) (fun _ => ?_) (fun h => absurd h (by decide))
    refine lv_aload_n hx hb dX8_rests_12 rfl (lv_at hl 0 rfl) ?_
    refine lv_iload_n hx hb dX8_rests_13 rfl (lv_at hl 1 rfl) ?_
    refine lv_iload_n hx hb dX8_rests_14 rfl (lv_at hl 2 rfl) ?_
    refine ro_i (D := D) (va_runV (As := [.int (nI j_2), .int p1]) (rest := []) ⟨hx, hb, hml, hown, hts⟩ ((m_isSet l D k st lo a tx t0 we rd ru rw ca fp wd nu na ts df db sd dn j_2 p1 hdn (by first | assumption | omega)) H.size) (cwV 2 hts (gV tw_1390 tw_1392 tw_64 tw_87 tw_1393) rfl rfl rfl (by decide +kernel) ⟨Nat.le_of_ble_eq_true rfl, Nat.le_of_ble_eq_true rfl⟩) (pV hS hAlo hlo hP hK (va_Dlo hD hAlo) hZ [0, 1] (by decide) rfl (ci := 8) (q := (RX8, TX8, 44)) (q0 := 0) rfl rfl) rfl rfl hl.1 rfl (lv_room (Nat.le_of_ble_eq_true rfl)) dX8_rests_15 ⟨Nat.le_of_ble_eq_true rfl, Nat.le_of_ble_eq_true rfl⟩) hS hA hP (fun r_3 H locs hw_3 hP hS => ?_)
    try dsimp only at hw_3
    refine lv_if_ne (tgt := 27) hx hb dX8_rests_18 (by decide) (fun c_4 => ?_) (fun c_4 => ?_)
    · refine lv_aload_n hx hb dX8_rests_27 rfl (lv_at hl 0 rfl) ?_
      refine lv_iload_n hx hb dX8_rests_28 rfl (lv_at hl 1 rfl) ?_
      refine lv_iload_n hx hb dX8_rests_29 rfl (lv_at hl 2 rfl) ?_
      refine rw_i (D := D) (wr := []) (va_runV (As := [.int (nI j_2), .int p1]) (rest := []) ⟨hx, hb, hml, hown, hts⟩ ((m_isAtRest l D k st lo a tx t0 we rd ru rw ca fp wd nu na ts df db sd dn se tm gs fprices fwalks br fdoorsOf j_2 p1 hdn (by first | assumption | omega) hbr (by first | assumption | omega) hdv) H.size) (cwV 2 hts (gV tw_1410 tw_1412 tw_68 tw_87 tw_1413) rfl rfl rfl (by decide +kernel) ⟨Nat.le_of_ble_eq_true rfl, Nat.le_of_ble_eq_true rfl⟩) (pV hS hAlo hlo hP hK (va_Dlo hD hAlo) hZ [0, 1, 2, 3, 4, 5, 6] (by decide) rfl (ci := 8) (q := (RX8, TX8, 44)) (q0 := 0) rfl rfl) rfl rfl hl.1 rfl (lv_room (Nat.le_of_ble_eq_true rfl)) dX8_rests_30 ⟨Nat.le_of_ble_eq_true rfl, Nat.le_of_ble_eq_true rfl⟩) hS hA hP hD [0, 1, 2, 3, 4, 5, 6] [] rfl rfl (by decide) (by decide) (fun r_5 u H locs hw_5 hP hD hS => ?_)
      obtain ⟨br__5, fdoorsOf__5⟩ := u
      replace hP : va_P D classes [((a 0), .inr (8, (fX8 a (nI tx) fp (nI t0) wd (nI we) nu na (nI rd) ts (nI ru) (nI rw) (nI ca) df db sd))), (aI k (a 1) 3 (nF dn)), (aI k (a 4) 27 (sg se tm gs)), (aI k (a 3) 72 fprices), (aI k (a 36) 4 fwalks), (aI k (a 37) 4 (nF br__5)), (aI k (a 40) 4 fdoorsOf__5)] H := hP
      replace hD : va_D A [((a 0), .inr (8, (fX8 a (nI tx) fp (nI t0) wd (nI we) nu na (nI rd) ts (nI ru) (nI rw) (nI ca) df db sd))), (aI k (a 1) 3 (nF dn)), (aI k (a 4) 27 (sg se tm gs)), (aI k (a 3) 72 fprices), (aI k (a 36) 4 fwalks), (aI k (a 37) 4 (nF br__5)), (aI k (a 40) 4 fdoorsOf__5)] := hD
      try dsimp only at hw_5
      refine lv_if_eq (tgt := 40) hx hb dX8_rests_33 (by decide) (fun c_6 => ?_) (fun c_6 => ?_)
      · refine lv_iconst (v := 0) hx hb dX8_rests_40 (by decide) ?_
        have hP9 := hP.sub (ws' := [((a 0), .inr (8, (fX8 a (nI tx) fp (nI t0) wd (nI we) nu na (nI rd) ts (nI ru) (nI rw) (nI ca) df db sd))), (aI k (a 1) 3 (nF dn)), (aI k (a 4) 27 (sg se tm gs)), (aI k (a 3) 72 fprices), (aI k (a 36) 4 fwalks), (aI k (a 37) 4 (nF br__5)), (aI k (a 40) 4 fdoorsOf__5)]) [0, 1, 2, 3, 4, 5, 6] rfl
        have hD9 := hD.sub (ws' := [((a 0), .inr (8, (fX8 a (nI tx) fp (nI t0) wd (nI we) nu na (nI rd) ts (nI ru) (nI rw) (nI ca) df db sd))), (aI k (a 1) 3 (nF dn)), (aI k (a 4) 27 (sg se tm gs)), (aI k (a 3) 72 fprices), (aI k (a 36) 4 fwalks), (aI k (a 37) 4 (nF br__5)), (aI k (a 40) 4 fdoorsOf__5)]) [0, 1, 2, 3, 4, 5, 6] (by decide) rfl
        exact W.iret (v := 0) hx hb hr (fun t ht hW => ⟨⟨0, (br__5, fdoorsOf__5), rfl, ⟨hw_5.1, hw_5.2⟩, by rw [ht]; exact hP9, hD9⟩, hS.F ht⟩) hS.2.2 dX8_rests_41
      · refine lv_iconst (v := 1) hx hb dX8_rests_36 (by decide) ?_
        refine lv_goto (tgt := 41) hx hb dX8_rests_37 (by decide) ?_
        have hP9 := hP.sub (ws' := [((a 0), .inr (8, (fX8 a (nI tx) fp (nI t0) wd (nI we) nu na (nI rd) ts (nI ru) (nI rw) (nI ca) df db sd))), (aI k (a 1) 3 (nF dn)), (aI k (a 4) 27 (sg se tm gs)), (aI k (a 3) 72 fprices), (aI k (a 36) 4 fwalks), (aI k (a 37) 4 (nF br__5)), (aI k (a 40) 4 fdoorsOf__5)]) [0, 1, 2, 3, 4, 5, 6] rfl
        have hD9 := hD.sub (ws' := [((a 0), .inr (8, (fX8 a (nI tx) fp (nI t0) wd (nI we) nu na (nI rd) ts (nI ru) (nI rw) (nI ca) df db sd))), (aI k (a 1) 3 (nF dn)), (aI k (a 4) 27 (sg se tm gs)), (aI k (a 3) 72 fprices), (aI k (a 36) 4 fwalks), (aI k (a 37) 4 (nF br__5)), (aI k (a 40) 4 fdoorsOf__5)]) [0, 1, 2, 3, 4, 5, 6] (by decide) rfl
        exact W.iret (v := 1) hx hb hr (fun t ht hW => ⟨⟨1, (br__5, fdoorsOf__5), rfl, ⟨hw_5.1, hw_5.2⟩, by rw [ht]; exact hP9, hD9⟩, hS.F ht⟩) hS.2.2 dX8_rests_41
    · refine lv_sipush (v := (-1002)) hx hb dX8_rests_21 (by decide) ?_
      refine lv_goto (tgt := 41) hx hb dX8_rests_24 (by decide) ?_
      have hP9 := hP.sub (ws' := [((a 0), .inr (8, (fX8 a (nI tx) fp (nI t0) wd (nI we) nu na (nI rd) ts (nI ru) (nI rw) (nI ca) df db sd))), (aI k (a 1) 3 (nF dn)), (aI k (a 4) 27 (sg se tm gs)), (aI k (a 3) 72 fprices), (aI k (a 36) 4 fwalks), (aI k (a 37) 4 (nF br)), (aI k (a 40) 4 fdoorsOf)]) [0, 1, 2, 3, 4, 5, 6] rfl
      have hD9 := hD.sub (ws' := [((a 0), .inr (8, (fX8 a (nI tx) fp (nI t0) wd (nI we) nu na (nI rd) ts (nI ru) (nI rw) (nI ca) df db sd))), (aI k (a 1) 3 (nF dn)), (aI k (a 4) 27 (sg se tm gs)), (aI k (a 3) 72 fprices), (aI k (a 36) 4 fwalks), (aI k (a 37) 4 (nF br)), (aI k (a 40) 4 fdoorsOf)]) [0, 1, 2, 3, 4, 5, 6] (by decide) rfl
      exact W.iret (v := (-1002)) hx hb hr (fun t ht hW => ⟨⟨(-1002), (br, fdoorsOf), rfl, ⟨hbr, hdv⟩, by rw [ht]; exact hP9, hD9⟩, hS.F ht⟩) hS.2.2 dX8_rests_41
  · refine lv_if_ne (tgt := 12) hx hb dX8_rests_5 (by decide) (fun h => absurd (by decide) h) (fun _ => ?_)
    refine lv_sipush (v := (-1001)) hx hb dX8_rests_8 (by decide) ?_
    have hP9 := hP.sub (ws' := [((a 0), .inr (8, (fX8 a (nI tx) fp (nI t0) wd (nI we) nu na (nI rd) ts (nI ru) (nI rw) (nI ca) df db sd))), (aI k (a 1) 3 (nF dn)), (aI k (a 4) 27 (sg se tm gs)), (aI k (a 3) 72 fprices), (aI k (a 36) 4 fwalks), (aI k (a 37) 4 (nF br)), (aI k (a 40) 4 fdoorsOf)]) [0, 1, 2, 3, 4, 5, 6] rfl
    have hD9 := hD.sub (ws' := [((a 0), .inr (8, (fX8 a (nI tx) fp (nI t0) wd (nI we) nu na (nI rd) ts (nI ru) (nI rw) (nI ca) df db sd))), (aI k (a 1) 3 (nF dn)), (aI k (a 4) 27 (sg se tm gs)), (aI k (a 3) 72 fprices), (aI k (a 36) 4 fwalks), (aI k (a 37) 4 (nF br)), (aI k (a 40) 4 fdoorsOf)]) [0, 1, 2, 3, 4, 5, 6] (by decide) rfl
    exact W.iret (v := (-1001)) hx hb hr (fun t ht hW => ⟨⟨(-1001), (br, fdoorsOf), rfl, ⟨hbr, hdv⟩, by rw [ht]; exact hP9, hD9⟩, hS.F ht⟩) hS.2.2 dX8_rests_11

theorem f_m_allRests_rows : True := trivial
theorem dX8_allRests_0 : decode cX8_allRests 0 = .ok (.aload_n 0, 1) := by decide +kernel
theorem dX8_allRests_1 : decode cX8_allRests 1 = .ok (.iload_n 1, 1) := by decide +kernel
theorem dX8_allRests_2 : decode cX8_allRests 2 = .ok (.invokevirtual 206, 3) := by decide +kernel
theorem dX8_allRests_5 : decode cX8_allRests 5 = .ok (.ifCond .ne 7, 3) := by decide +kernel
theorem dX8_allRests_8 : decode cX8_allRests 8 = .ok (.sipush (-1001), 3) := by decide +kernel
theorem dX8_allRests_11 : decode cX8_allRests 11 = .ok (.ireturn, 1) := by decide +kernel
theorem dX8_allRests_12 : decode cX8_allRests 12 = .ok (.aload_n 0, 1) := by decide +kernel
theorem dX8_allRests_13 : decode cX8_allRests 13 = .ok (.iload_n 1, 1) := by decide +kernel
theorem dX8_allRests_14 : decode cX8_allRests 14 = .ok (.iload_n 2, 1) := by decide +kernel
theorem dX8_allRests_15 : decode cX8_allRests 15 = .ok (.invokevirtual 333, 3) := by decide +kernel
theorem dX8_allRests_18 : decode cX8_allRests 18 = .ok (.ifCond .ne 7, 3) := by decide +kernel
theorem dX8_allRests_21 : decode cX8_allRests 21 = .ok (.sipush (-1002), 3) := by decide +kernel
theorem dX8_allRests_24 : decode cX8_allRests 24 = .ok (.ireturn, 1) := by decide +kernel
theorem dX8_allRests_25 : decode cX8_allRests 25 = .ok (.aload_n 0, 1) := by decide +kernel
theorem dX8_allRests_26 : decode cX8_allRests 26 = .ok (.getfield 315, 3) := by decide +kernel
theorem dX8_allRests_29 : decode cX8_allRests 29 = .ok (.iconst 2, 1) := by decide +kernel
theorem dX8_allRests_30 : decode cX8_allRests 30 = .ok (.if_icmp .le 7, 3) := by decide +kernel
theorem dX8_allRests_33 : decode cX8_allRests 33 = .ok (.sipush (-1003), 3) := by decide +kernel
theorem dX8_allRests_36 : decode cX8_allRests 36 = .ok (.ireturn, 1) := by decide +kernel
theorem dX8_allRests_37 : decode cX8_allRests 37 = .ok (.aload_n 0, 1) := by decide +kernel
theorem dX8_allRests_38 : decode cX8_allRests 38 = .ok (.invokevirtual 348, 3) := by decide +kernel
theorem dX8_allRests_41 : decode cX8_allRests 41 = .ok (.aload_n 0, 1) := by decide +kernel
theorem dX8_allRests_42 : decode cX8_allRests 42 = .ok (.getfield 7, 3) := by decide +kernel
theorem dX8_allRests_45 : decode cX8_allRests 45 = .ok (.iload_n 1, 1) := by decide +kernel
theorem dX8_allRests_46 : decode cX8_allRests 46 = .ok (.iaload, 1) := by decide +kernel
theorem dX8_allRests_47 : decode cX8_allRests 47 = .ok (.istore_n 3, 1) := by decide +kernel
theorem dX8_allRests_48 : decode cX8_allRests 48 = .ok (.iconst 0, 1) := by decide +kernel
theorem dX8_allRests_49 : decode cX8_allRests 49 = .ok (.istore 4, 2) := by decide +kernel
theorem dX8_allRests_51 : decode cX8_allRests 51 = .ok (.iconst 0, 1) := by decide +kernel
theorem dX8_allRests_52 : decode cX8_allRests 52 = .ok (.istore 5, 2) := by decide +kernel
theorem dX8_allRests_54 : decode cX8_allRests 54 = .ok (.iload 5, 2) := by decide +kernel
theorem dX8_allRests_56 : decode cX8_allRests 56 = .ok (.aload_n 0, 1) := by decide +kernel
theorem dX8_allRests_57 : decode cX8_allRests 57 = .ok (.getfield 315, 3) := by decide +kernel
theorem dX8_allRests_60 : decode cX8_allRests 60 = .ok (.ifCond .le 7, 3) := by decide +kernel
theorem dX8_allRests_63 : decode cX8_allRests 63 = .ok (.iload_n 3, 1) := by decide +kernel
theorem dX8_allRests_64 : decode cX8_allRests 64 = .ok (.goto 4, 3) := by decide +kernel
theorem dX8_allRests_67 : decode cX8_allRests 67 = .ok (.iconst 0, 1) := by decide +kernel
theorem dX8_allRests_68 : decode cX8_allRests 68 = .ok (.if_icmp .gt 71, 3) := by decide +kernel
theorem dX8_allRests_71 : decode cX8_allRests 71 = .ok (.iconst 0, 1) := by decide +kernel
theorem dX8_allRests_72 : decode cX8_allRests 72 = .ok (.istore 6, 2) := by decide +kernel
theorem dX8_allRests_74 : decode cX8_allRests 74 = .ok (.iload 6, 2) := by decide +kernel
theorem dX8_allRests_76 : decode cX8_allRests 76 = .ok (.aload_n 0, 1) := by decide +kernel
theorem dX8_allRests_77 : decode cX8_allRests 77 = .ok (.getfield 315, 3) := by decide +kernel
theorem dX8_allRests_80 : decode cX8_allRests 80 = .ok (.iconst 1, 1) := by decide +kernel
theorem dX8_allRests_81 : decode cX8_allRests 81 = .ok (.if_icmp .le 7, 3) := by decide +kernel
theorem dX8_allRests_84 : decode cX8_allRests 84 = .ok (.iload_n 3, 1) := by decide +kernel
theorem dX8_allRests_85 : decode cX8_allRests 85 = .ok (.goto 4, 3) := by decide +kernel
theorem dX8_allRests_88 : decode cX8_allRests 88 = .ok (.iconst 0, 1) := by decide +kernel
theorem dX8_allRests_89 : decode cX8_allRests 89 = .ok (.if_icmp .gt 44, 3) := by decide +kernel
theorem dX8_allRests_92 : decode cX8_allRests 92 = .ok (.aload_n 0, 1) := by decide +kernel
theorem dX8_allRests_93 : decode cX8_allRests 93 = .ok (.getfield 87, 3) := by decide +kernel
theorem dX8_allRests_96 : decode cX8_allRests 96 = .ok (.iconst 0, 1) := by decide +kernel
theorem dX8_allRests_97 : decode cX8_allRests 97 = .ok (.iload 5, 2) := by decide +kernel
theorem dX8_allRests_99 : decode cX8_allRests 99 = .ok (.iastore, 1) := by decide +kernel
theorem dX8_allRests_100 : decode cX8_allRests 100 = .ok (.aload_n 0, 1) := by decide +kernel
theorem dX8_allRests_101 : decode cX8_allRests 101 = .ok (.getfield 87, 3) := by decide +kernel
theorem dX8_allRests_104 : decode cX8_allRests 104 = .ok (.iconst 1, 1) := by decide +kernel
theorem dX8_allRests_105 : decode cX8_allRests 105 = .ok (.iload 6, 2) := by decide +kernel
theorem dX8_allRests_107 : decode cX8_allRests 107 = .ok (.iastore, 1) := by decide +kernel
theorem dX8_allRests_108 : decode cX8_allRests 108 = .ok (.iload 4, 2) := by decide +kernel
theorem dX8_allRests_110 : decode cX8_allRests 110 = .ok (.aload_n 0, 1) := by decide +kernel
theorem dX8_allRests_111 : decode cX8_allRests 111 = .ok (.iload_n 1, 1) := by decide +kernel
theorem dX8_allRests_112 : decode cX8_allRests 112 = .ok (.iload_n 2, 1) := by decide +kernel
theorem dX8_allRests_113 : decode cX8_allRests 113 = .ok (.invokevirtual 342, 3) := by decide +kernel
theorem dX8_allRests_116 : decode cX8_allRests 116 = .ok (.ifCond .eq 7, 3) := by decide +kernel
theorem dX8_allRests_119 : decode cX8_allRests 119 = .ok (.iconst 1, 1) := by decide +kernel
theorem dX8_allRests_120 : decode cX8_allRests 120 = .ok (.goto 4, 3) := by decide +kernel
theorem dX8_allRests_123 : decode cX8_allRests 123 = .ok (.iconst 0, 1) := by decide +kernel
theorem dX8_allRests_124 : decode cX8_allRests 124 = .ok (.iadd, 1) := by decide +kernel
theorem dX8_allRests_125 : decode cX8_allRests 125 = .ok (.istore 4, 2) := by decide +kernel
theorem dX8_allRests_127 : decode cX8_allRests 127 = .ok (.iinc 6 1, 3) := by decide +kernel
theorem dX8_allRests_130 : decode cX8_allRests 130 = .ok (.goto (-56), 3) := by decide +kernel
theorem dX8_allRests_133 : decode cX8_allRests 133 = .ok (.iinc 5 1, 3) := by decide +kernel
theorem dX8_allRests_136 : decode cX8_allRests 136 = .ok (.goto (-82), 3) := by decide +kernel
theorem dX8_allRests_139 : decode cX8_allRests 139 = .ok (.aload_n 0, 1) := by decide +kernel
theorem dX8_allRests_140 : decode cX8_allRests 140 = .ok (.invokevirtual 351, 3) := by decide +kernel
theorem dX8_allRests_143 : decode cX8_allRests 143 = .ok (.iload 4, 2) := by decide +kernel
theorem dX8_allRests_145 : decode cX8_allRests 145 = .ok (.ireturn, 1) := by decide +kernel
theorem f_m_mend_rows : True := trivial
theorem dX8_mend_0 : decode cX8_mend 0 = .ok (.aload_n 0, 1) := by decide +kernel
theorem dX8_mend_1 : decode cX8_mend 1 = .ok (.iload_n 1, 1) := by decide +kernel
theorem dX8_mend_2 : decode cX8_mend 2 = .ok (.invokevirtual 206, 3) := by decide +kernel
theorem dX8_mend_5 : decode cX8_mend 5 = .ok (.ifCond .eq 12, 3) := by decide +kernel
theorem dX8_mend_8 : decode cX8_mend 8 = .ok (.aload_n 0, 1) := by decide +kernel
theorem dX8_mend_9 : decode cX8_mend 9 = .ok (.iload_n 1, 1) := by decide +kernel
theorem dX8_mend_10 : decode cX8_mend 10 = .ok (.iload_n 3, 1) := by decide +kernel
theorem dX8_mend_11 : decode cX8_mend 11 = .ok (.invokevirtual 215, 3) := by decide +kernel
theorem dX8_mend_14 : decode cX8_mend 14 = .ok (.ifCond .ne 7, 3) := by decide +kernel
theorem dX8_mend_17 : decode cX8_mend 17 = .ok (.sipush (-1001), 3) := by decide +kernel
theorem dX8_mend_20 : decode cX8_mend 20 = .ok (.ireturn, 1) := by decide +kernel
theorem dX8_mend_21 : decode cX8_mend 21 = .ok (.aload_n 0, 1) := by decide +kernel
theorem dX8_mend_22 : decode cX8_mend 22 = .ok (.iload_n 1, 1) := by decide +kernel
theorem dX8_mend_23 : decode cX8_mend 23 = .ok (.iload_n 2, 1) := by decide +kernel
theorem dX8_mend_24 : decode cX8_mend 24 = .ok (.invokevirtual 333, 3) := by decide +kernel
theorem dX8_mend_27 : decode cX8_mend 27 = .ok (.ifCond .ne 7, 3) := by decide +kernel
theorem dX8_mend_30 : decode cX8_mend 30 = .ok (.sipush (-1002), 3) := by decide +kernel
theorem dX8_mend_33 : decode cX8_mend 33 = .ok (.ireturn, 1) := by decide +kernel
theorem dX8_mend_34 : decode cX8_mend 34 = .ok (.aload_n 0, 1) := by decide +kernel
theorem dX8_mend_35 : decode cX8_mend 35 = .ok (.invokevirtual 348, 3) := by decide +kernel
theorem dX8_mend_38 : decode cX8_mend 38 = .ok (.iconst 0, 1) := by decide +kernel
theorem dX8_mend_39 : decode cX8_mend 39 = .ok (.istore 4, 2) := by decide +kernel
theorem dX8_mend_41 : decode cX8_mend 41 = .ok (.iconst 0, 1) := by decide +kernel
theorem dX8_mend_42 : decode cX8_mend 42 = .ok (.istore 5, 2) := by decide +kernel
theorem dX8_mend_44 : decode cX8_mend 44 = .ok (.iconst 0, 1) := by decide +kernel
theorem dX8_mend_45 : decode cX8_mend 45 = .ok (.istore 6, 2) := by decide +kernel
theorem dX8_mend_47 : decode cX8_mend 47 = .ok (.iload 6, 2) := by decide +kernel
theorem dX8_mend_49 : decode cX8_mend 49 = .ok (.bipush 20, 2) := by decide +kernel
theorem dX8_mend_51 : decode cX8_mend 51 = .ok (.if_icmp .gt 97, 3) := by decide +kernel
theorem dX8_mend_54 : decode cX8_mend 54 = .ok (.iconst 0, 1) := by decide +kernel
theorem dX8_mend_55 : decode cX8_mend 55 = .ok (.istore 7, 2) := by decide +kernel
theorem dX8_mend_57 : decode cX8_mend 57 = .ok (.iload 7, 2) := by decide +kernel
theorem dX8_mend_59 : decode cX8_mend 59 = .ok (.iconst 4, 1) := by decide +kernel
theorem dX8_mend_60 : decode cX8_mend 60 = .ok (.if_icmp .ge 17, 3) := by decide +kernel
theorem dX8_mend_63 : decode cX8_mend 63 = .ok (.aload_n 0, 1) := by decide +kernel
theorem dX8_mend_64 : decode cX8_mend 64 = .ok (.getfield 87, 3) := by decide +kernel
theorem dX8_mend_67 : decode cX8_mend 67 = .ok (.iload 7, 2) := by decide +kernel
theorem dX8_mend_69 : decode cX8_mend 69 = .ok (.iconst 0, 1) := by decide +kernel
theorem dX8_mend_70 : decode cX8_mend 70 = .ok (.iastore, 1) := by decide +kernel
theorem dX8_mend_71 : decode cX8_mend 71 = .ok (.iinc 7 1, 3) := by decide +kernel
theorem dX8_mend_74 : decode cX8_mend 74 = .ok (.goto (-17), 3) := by decide +kernel
theorem dX8_mend_77 : decode cX8_mend 77 = .ok (.aload_n 0, 1) := by decide +kernel
theorem dX8_mend_78 : decode cX8_mend 78 = .ok (.iload_n 3, 1) := by decide +kernel
theorem dX8_mend_79 : decode cX8_mend 79 = .ok (.putfield 321, 3) := by decide +kernel
theorem dX8_mend_82 : decode cX8_mend 82 = .ok (.aload_n 0, 1) := by decide +kernel
theorem dX8_mend_83 : decode cX8_mend 83 = .ok (.bipush 10, 2) := by decide +kernel
theorem dX8_mend_85 : decode cX8_mend 85 = .ok (.iload 6, 2) := by decide +kernel
theorem dX8_mend_87 : decode cX8_mend 87 = .ok (.imul, 1) := by decide +kernel
theorem dX8_mend_88 : decode cX8_mend 88 = .ok (.putfield 324, 3) := by decide +kernel
theorem dX8_mend_91 : decode cX8_mend 91 = .ok (.aload_n 0, 1) := by decide +kernel
theorem dX8_mend_92 : decode cX8_mend 92 = .ok (.iload_n 1, 1) := by decide +kernel
theorem dX8_mend_93 : decode cX8_mend 93 = .ok (.iload_n 2, 1) := by decide +kernel
theorem dX8_mend_94 : decode cX8_mend 94 = .ok (.invokevirtual 345, 3) := by decide +kernel
theorem dX8_mend_97 : decode cX8_mend 97 = .ok (.istore 7, 2) := by decide +kernel
theorem dX8_mend_99 : decode cX8_mend 99 = .ok (.aload_n 0, 1) := by decide +kernel
theorem dX8_mend_100 : decode cX8_mend 100 = .ok (.iconst 0, 1) := by decide +kernel
theorem dX8_mend_101 : decode cX8_mend 101 = .ok (.putfield 324, 3) := by decide +kernel
theorem dX8_mend_104 : decode cX8_mend 104 = .ok (.iload 7, 2) := by decide +kernel
theorem dX8_mend_106 : decode cX8_mend 106 = .ok (.iconst (-1), 1) := by decide +kernel
theorem dX8_mend_107 : decode cX8_mend 107 = .ok (.if_icmp .ge 7, 3) := by decide +kernel
theorem dX8_mend_114 : decode cX8_mend 114 = .ok (.aload_n 0, 1) := by decide +kernel
theorem dX8_mend_115 : decode cX8_mend 115 = .ok (.iload_n 1, 1) := by decide +kernel
theorem dX8_mend_116 : decode cX8_mend 116 = .ok (.iload_n 2, 1) := by decide +kernel
theorem dX8_mend_117 : decode cX8_mend 117 = .ok (.invokevirtual 368, 3) := by decide +kernel
theorem dX8_mend_120 : decode cX8_mend 120 = .ok (.istore 8, 2) := by decide +kernel
theorem dX8_mend_122 : decode cX8_mend 122 = .ok (.iload 6, 2) := by decide +kernel
theorem dX8_mend_124 : decode cX8_mend 124 = .ok (.ifCond .eq 10, 3) := by decide +kernel
theorem dX8_mend_127 : decode cX8_mend 127 = .ok (.iload 8, 2) := by decide +kernel
theorem dX8_mend_129 : decode cX8_mend 129 = .ok (.iload 5, 2) := by decide +kernel
theorem dX8_mend_131 : decode cX8_mend 131 = .ok (.if_icmp .ge 11, 3) := by decide +kernel
theorem dX8_mend_134 : decode cX8_mend 134 = .ok (.iload 6, 2) := by decide +kernel
theorem dX8_mend_136 : decode cX8_mend 136 = .ok (.istore 4, 2) := by decide +kernel
theorem dX8_mend_138 : decode cX8_mend 138 = .ok (.iload 8, 2) := by decide +kernel
theorem dX8_mend_140 : decode cX8_mend 140 = .ok (.istore 5, 2) := by decide +kernel
theorem dX8_mend_142 : decode cX8_mend 142 = .ok (.iinc 6 1, 3) := by decide +kernel
theorem dX8_mend_145 : decode cX8_mend 145 = .ok (.goto (-98), 3) := by decide +kernel
theorem dX8_mend_148 : decode cX8_mend 148 = .ok (.aload_n 0, 1) := by decide +kernel
theorem dX8_mend_149 : decode cX8_mend 149 = .ok (.invokevirtual 351, 3) := by decide +kernel
theorem dX8_mend_152 : decode cX8_mend 152 = .ok (.iload 4, 2) := by decide +kernel
theorem dX8_mend_154 : decode cX8_mend 154 = .ok (.ireturn, 1) := by decide +kernel

theorem dX8_putBars_0 : decode cX8_putBars 0 = .ok (.iconst 0, 1) := by decide +kernel
theorem dX8_putBars_1 : decode cX8_putBars 1 = .ok (.istore_n 1, 1) := by decide +kernel
theorem dX8_putBars_2 : decode cX8_putBars 2 = .ok (.iload_n 1, 1) := by decide +kernel
theorem dX8_putBars_3 : decode cX8_putBars 3 = .ok (.iconst 4, 1) := by decide +kernel
theorem dX8_putBars_4 : decode cX8_putBars 4 = .ok (.if_icmp .ge 21, 3) := by decide +kernel
theorem dX8_putBars_7 : decode cX8_putBars 7 = .ok (.aload_n 0, 1) := by decide +kernel
theorem dX8_putBars_8 : decode cX8_putBars 8 = .ok (.getfield 87, 3) := by decide +kernel
theorem dX8_putBars_11 : decode cX8_putBars 11 = .ok (.iload_n 1, 1) := by decide +kernel
theorem dX8_putBars_12 : decode cX8_putBars 12 = .ok (.aload_n 0, 1) := by decide +kernel
theorem dX8_putBars_13 : decode cX8_putBars 13 = .ok (.getfield 93, 3) := by decide +kernel
theorem dX8_putBars_16 : decode cX8_putBars 16 = .ok (.iload_n 1, 1) := by decide +kernel
theorem dX8_putBars_17 : decode cX8_putBars 17 = .ok (.iaload, 1) := by decide +kernel
theorem dX8_putBars_18 : decode cX8_putBars 18 = .ok (.iastore, 1) := by decide +kernel
theorem dX8_putBars_19 : decode cX8_putBars 19 = .ok (.iinc 1 1, 3) := by decide +kernel
theorem dX8_putBars_22 : decode cX8_putBars 22 = .ok (.goto (-20), 3) := by decide +kernel
theorem dX8_putBars_25 : decode cX8_putBars 25 = .ok (.return_, 1) := by decide +kernel
set_option maxHeartbeats 4000000 in
set_option maxRecDepth 100000 in
theorem m_putBars (l : Launch) (D : va_G) (k : Nat → ClassId) (st : Nat → Nat) (lo : Nat) (a : Nat → Nat) (tx : Nat) (t0 : Nat) (we : Nat) (rd : Nat) (ru : Nat) (rw : Nat) (ca : Nat) (fp : Int32) (wd : Int64) (nu : Int32) (na : Int32) (ts : Int32) (df : Int32) (db : Int32) (sd : Int32) (wb : Nat → Nat) (br : Nat → Nat) (hbr : ∀ j, br j ≤ 24) (hwb : ∀ j, wb j ≤ 24) : CWv l D k st lo yX8_putBars cX8_putBars 2 none ({ frames := 0, cells := 0, slots := 0, locals := 0 }) 0 0 [.ref (a 0)] [((a 0), .inr (8, [.ref (a 1), .ref (a 2), .ref (a 3), .ref (a 4), .ref (a 5), .int (nI tx), .int fp, .int (nI t0), .long wd, .int (nI we), .int nu, .int na, .int (nI rd), .ref (a 14), .ref (a 15), .ref (a 16), .int ts, .ref (a 18), .ref (a 19), .ref (a 20), .ref (a 21), .ref (a 22), .ref (a 23), .int (nI ru), .ref (a 25), .ref (a 26), .ref (a 27), .ref (a 28), .ref (a 29), .ref (a 30), .int (nI rw), .ref (a 32), .ref (a 33), .ref (a 34), .int (nI ca), .ref (a 36), .ref (a 37), .int df, .int db, .ref (a 40), .ref (a 41), .int sd, .ref (a 43), .ref (a 44)])), ((a 41), .inl (k 1, 4, .inl (nF wb))), ((a 37), .inl (k 1, 4, .inl (nF br)))] (fun (br_ : (Nat → Nat)) => ∀ j, br_ j ≤ 24) (fun (br_ : (Nat → Nat)) => [((a 0), .inr (8, [.ref (a 1), .ref (a 2), .ref (a 3), .ref (a 4), .ref (a 5), .int (nI tx), .int fp, .int (nI t0), .long wd, .int (nI we), .int nu, .int na, .int (nI rd), .ref (a 14), .ref (a 15), .ref (a 16), .int ts, .ref (a 18), .ref (a 19), .ref (a 20), .ref (a 21), .ref (a 22), .ref (a 23), .int (nI ru), .ref (a 25), .ref (a 26), .ref (a 27), .ref (a 28), .ref (a 29), .ref (a 30), .int (nI rw), .ref (a 32), .ref (a 33), .ref (a 34), .int (nI ca), .ref (a 36), .ref (a 37), .int df, .int db, .ref (a 40), .ref (a 41), .int sd, .ref (a 43), .ref (a 44)])), ((a 41), .inl (k 1, 4, .inl (nF wb))), ((a 37), .inl (k 1, 4, .inl (nF br_)))]) := by
  intro sz
  refine Met.ofW (cc := cX8_putBars) (maxL := 2) (ret := none) (by decide) rfl ?_
  intro p e s m args below meth c s₁ B hml hv
  obtain ⟨rfl, hsz, hlo, hP, hK, hDL, hZ⟩ := hv
  have hx := B.exec
  have hb := B.bytes
  have hr := B.returns
  have hts := WS_ts B.pre
  have hown : s.vm.findClass RX8 = some m.cls := findClass_of_methodNamed B.named
  have hlocks := B.notSynchronized
  subst hsz
  have hD := hDL.self (sz := s.heap.size)
  have hAlo := A_lo hDL hlo
  generalize hAe : va_A [((a 0), .inr (8, [.ref (a 1), .ref (a 2), .ref (a 3), .ref (a 4), .ref (a 5), .int (nI tx), .int fp, .int (nI t0), .long wd, .int (nI we), .int nu, .int na, .int (nI rd), .ref (a 14), .ref (a 15), .ref (a 16), .int ts, .ref (a 18), .ref (a 19), .ref (a 20), .ref (a 21), .ref (a 22), .ref (a 23), .int (nI ru), .ref (a 25), .ref (a 26), .ref (a 27), .ref (a 28), .ref (a 29), .ref (a 30), .int (nI rw), .ref (a 32), .ref (a 33), .ref (a 34), .int (nI ca), .ref (a 36), .ref (a 37), .int df, .int db, .ref (a 40), .ref (a 41), .int sd, .ref (a 43), .ref (a 44)])), ((a 41), .inl (k 1, 4, .inl (nF wb))), ((a 37), .inl (k 1, 4, .inl (nF br)))] s.heap.size = A at hD hAlo ⊢
  have hA : ∀ q : Nat, s.heap.size ≤ q → A q := fun q h => by rw [← hAe]; exact Or.inr h
  have hS : va_S A s.heap s.heap [] := va_S.rf
  have hl := lv_entry ([.ref (a 0)]) (n := 2) (Nat.le_of_ble_eq_true rfl)
  rw [lg_entry_eq]
  generalize (lg_sl ([.ref (a 0)]) ++ List.replicate (2 - (lg_sl ([.ref (a 0)])).length) Slot.unset).toArray = ls at hl ⊢
  have hl : lv_has ls 2 [(0, .ref (a 0))] := hl
  refine lv_iconst (v := 0) hx hb dX8_putBars_0 (by decide) ?_
  refine lv_istore_n (lv' := [(1, .int 0), (0, .ref (a 0))]) hx hb dX8_putBars_1 rfl hl (by decide) rfl (fun ls hl => ?_)
  refine lv_iload_n hx hb dX8_putBars_2 rfl (lv_at hl 0 rfl) ?_
  refine lv_iconst (v := 4) hx hb dX8_putBars_3 (by decide) ?_
  refine lv_icmp_ge (tgt := 25) hx hb dX8_putBars_4 (by decide) (fun h => absurd h (by decide)) (fun _ => ?_)
  refine lv_aload_n hx hb dX8_putBars_7 rfl (lv_at hl 1 rfl) ?_
  refine va_get (D := D) (ci := 8) (v := .ref (a 37)) (C := RX8) (T := TX8) (N := 44) hx hb hts inX8 hown hK hP 0 rfl rfl 36 (by decide) (hts _ tw_1009) (fun _ h9 => h9) rfl dX8_putBars_8 ?_
  refine lv_iload_n hx hb dX8_putBars_11 rfl (lv_at hl 0 rfl) ?_
  refine lv_aload_n hx hb dX8_putBars_12 rfl (lv_at hl 1 rfl) ?_
  refine va_get (D := D) (ci := 8) (v := .ref (a 41)) (C := RX8) (T := TX8) (N := 44) hx hb hts inX8 hown hK hP 0 rfl rfl 40 (by decide) (hts _ tw_1013) (fun _ h9 => h9) rfl dX8_putBars_13 ?_
  refine lv_iload_n hx hb dX8_putBars_16 rfl (lv_at hl 0 rfl) ?_
  refine va_iald hx hb hK hP 1 1 rfl rfl (by unfold vp_in; decide) dX8_putBars_17 ?_
  have hq_1 := hwb 0
  refine lv_ti (y := (nI (wb 0))) (by rfl) ?_
  refine va_iast hx hb hK hP hD hS 2 1 rfl rfl (by unfold vp_in; decide) dX8_putBars_18 (fun H locs hP hD hS => ?_)
  replace hP : va_P D classes [((a 0), .inr (8, [.ref (a 1), .ref (a 2), .ref (a 3), .ref (a 4), .ref (a 5), .int (nI tx), .int fp, .int (nI t0), .long wd, .int (nI we), .int nu, .int na, .int (nI rd), .ref (a 14), .ref (a 15), .ref (a 16), .int ts, .ref (a 18), .ref (a 19), .ref (a 20), .ref (a 21), .ref (a 22), .ref (a 23), .int (nI ru), .ref (a 25), .ref (a 26), .ref (a 27), .ref (a 28), .ref (a 29), .ref (a 30), .int (nI rw), .ref (a 32), .ref (a 33), .ref (a 34), .int (nI ca), .ref (a 36), .ref (a 37), .int df, .int db, .ref (a 40), .ref (a 41), .int sd, .ref (a 43), .ref (a 44)])), ((a 41), .inl (k 1, 4, .inl (nF wb))), ((a 37), .inl (k 1, 4, .inl (upd (nF br) (Int32.toNatClampNeg 0) (nI (wb 0)))))] H := hP
  replace hD : va_D A [((a 0), .inr (8, [.ref (a 1), .ref (a 2), .ref (a 3), .ref (a 4), .ref (a 5), .int (nI tx), .int fp, .int (nI t0), .long wd, .int (nI we), .int nu, .int na, .int (nI rd), .ref (a 14), .ref (a 15), .ref (a 16), .int ts, .ref (a 18), .ref (a 19), .ref (a 20), .ref (a 21), .ref (a 22), .ref (a 23), .int (nI ru), .ref (a 25), .ref (a 26), .ref (a 27), .ref (a 28), .ref (a 29), .ref (a 30), .int (nI rw), .ref (a 32), .ref (a 33), .ref (a 34), .int (nI ca), .ref (a 36), .ref (a 37), .int df, .int db, .ref (a 40), .ref (a 41), .int sd, .ref (a 43), .ref (a 44)])), ((a 41), .inl (k 1, 4, .inl (nF wb))), ((a 37), .inl (k 1, 4, .inl (upd (nF br) (Int32.toNatClampNeg 0) (nI (wb 0)))))] := hD
  rw [show upd (nF br) (Int32.toNatClampNeg 0) (nI (wb 0)) = nF (fun j => if j = 0 then wb 0 else br j) from nF_upd _ _ _] at hP hD
  obtain ⟨d_3, hd_3⟩ : ∃ z : Nat → Nat, z = (fun j => if j = 0 then wb 0 else br j) := ⟨_, rfl⟩
  rw [← hd_3] at hP hD
  have hbb_3 : ∀ j, d_3 j ≤ 24 := by rw [hd_3]; exact up_le hbr (by omega)
  refine lv_iinc (v := 1) (lv' := [(1, .int 1), (0, .ref (a 0))]) hx hb dX8_putBars_19 hl (k := 0) rfl (by decide) (by decide) rfl (fun ls hl => ?_)
  refine lv_goto (tgt := 2) hx hb dX8_putBars_22 (by decide) ?_
  refine lv_iload_n hx hb dX8_putBars_2 rfl (lv_at hl 0 rfl) ?_
  refine lv_iconst (v := 4) hx hb dX8_putBars_3 (by decide) ?_
  refine lv_icmp_ge (tgt := 25) hx hb dX8_putBars_4 (by decide) (fun h => absurd h (by decide)) (fun _ => ?_)
  refine lv_aload_n hx hb dX8_putBars_7 rfl (lv_at hl 1 rfl) ?_
  refine va_get (D := D) (ci := 8) (v := .ref (a 37)) (C := RX8) (T := TX8) (N := 44) hx hb hts inX8 hown hK hP 0 rfl rfl 36 (by decide) (hts _ tw_1009) (fun _ h9 => h9) rfl dX8_putBars_8 ?_
  refine lv_iload_n hx hb dX8_putBars_11 rfl (lv_at hl 0 rfl) ?_
  refine lv_aload_n hx hb dX8_putBars_12 rfl (lv_at hl 1 rfl) ?_
  refine va_get (D := D) (ci := 8) (v := .ref (a 41)) (C := RX8) (T := TX8) (N := 44) hx hb hts inX8 hown hK hP 0 rfl rfl 40 (by decide) (hts _ tw_1013) (fun _ h9 => h9) rfl dX8_putBars_13 ?_
  refine lv_iload_n hx hb dX8_putBars_16 rfl (lv_at hl 0 rfl) ?_
  refine va_iald hx hb hK hP 1 1 rfl rfl (by unfold vp_in; decide) dX8_putBars_17 ?_
  have hq_4 := hwb 1
  refine lv_ti (y := (nI (wb 1))) (by rfl) ?_
  refine va_iast hx hb hK hP hD hS 2 1 rfl rfl (by unfold vp_in; decide) dX8_putBars_18 (fun H locs hP hD hS => ?_)
  replace hP : va_P D classes [((a 0), .inr (8, [.ref (a 1), .ref (a 2), .ref (a 3), .ref (a 4), .ref (a 5), .int (nI tx), .int fp, .int (nI t0), .long wd, .int (nI we), .int nu, .int na, .int (nI rd), .ref (a 14), .ref (a 15), .ref (a 16), .int ts, .ref (a 18), .ref (a 19), .ref (a 20), .ref (a 21), .ref (a 22), .ref (a 23), .int (nI ru), .ref (a 25), .ref (a 26), .ref (a 27), .ref (a 28), .ref (a 29), .ref (a 30), .int (nI rw), .ref (a 32), .ref (a 33), .ref (a 34), .int (nI ca), .ref (a 36), .ref (a 37), .int df, .int db, .ref (a 40), .ref (a 41), .int sd, .ref (a 43), .ref (a 44)])), ((a 41), .inl (k 1, 4, .inl (nF wb))), ((a 37), .inl (k 1, 4, .inl (upd (nF d_3) (Int32.toNatClampNeg 1) (nI (wb 1)))))] H := hP
  replace hD : va_D A [((a 0), .inr (8, [.ref (a 1), .ref (a 2), .ref (a 3), .ref (a 4), .ref (a 5), .int (nI tx), .int fp, .int (nI t0), .long wd, .int (nI we), .int nu, .int na, .int (nI rd), .ref (a 14), .ref (a 15), .ref (a 16), .int ts, .ref (a 18), .ref (a 19), .ref (a 20), .ref (a 21), .ref (a 22), .ref (a 23), .int (nI ru), .ref (a 25), .ref (a 26), .ref (a 27), .ref (a 28), .ref (a 29), .ref (a 30), .int (nI rw), .ref (a 32), .ref (a 33), .ref (a 34), .int (nI ca), .ref (a 36), .ref (a 37), .int df, .int db, .ref (a 40), .ref (a 41), .int sd, .ref (a 43), .ref (a 44)])), ((a 41), .inl (k 1, 4, .inl (nF wb))), ((a 37), .inl (k 1, 4, .inl (upd (nF d_3) (Int32.toNatClampNeg 1) (nI (wb 1)))))] := hD
  rw [show upd (nF d_3) (Int32.toNatClampNeg 1) (nI (wb 1)) = nF (fun j => if j = 1 then wb 1 else d_3 j) from nF_upd _ _ _] at hP hD
  obtain ⟨d_6, hd_6⟩ : ∃ z : Nat → Nat, z = (fun j => if j = 1 then wb 1 else d_3 j) := ⟨_, rfl⟩
  rw [← hd_6] at hP hD
  have hbb_6 : ∀ j, d_6 j ≤ 24 := by rw [hd_6]; exact up_le hbb_3 (by omega)
  refine lv_iinc (v := 2) (lv' := [(1, .int 2), (0, .ref (a 0))]) hx hb dX8_putBars_19 hl (k := 0) rfl (by decide) (by decide) rfl (fun ls hl => ?_)
  refine lv_goto (tgt := 2) hx hb dX8_putBars_22 (by decide) ?_
  refine lv_iload_n hx hb dX8_putBars_2 rfl (lv_at hl 0 rfl) ?_
  refine lv_iconst (v := 4) hx hb dX8_putBars_3 (by decide) ?_
  refine lv_icmp_ge (tgt := 25) hx hb dX8_putBars_4 (by decide) (fun h => absurd h (by decide)) (fun _ => ?_)
  refine lv_aload_n hx hb dX8_putBars_7 rfl (lv_at hl 1 rfl) ?_
  refine va_get (D := D) (ci := 8) (v := .ref (a 37)) (C := RX8) (T := TX8) (N := 44) hx hb hts inX8 hown hK hP 0 rfl rfl 36 (by decide) (hts _ tw_1009) (fun _ h9 => h9) rfl dX8_putBars_8 ?_
  refine lv_iload_n hx hb dX8_putBars_11 rfl (lv_at hl 0 rfl) ?_
  refine lv_aload_n hx hb dX8_putBars_12 rfl (lv_at hl 1 rfl) ?_
  refine va_get (D := D) (ci := 8) (v := .ref (a 41)) (C := RX8) (T := TX8) (N := 44) hx hb hts inX8 hown hK hP 0 rfl rfl 40 (by decide) (hts _ tw_1013) (fun _ h9 => h9) rfl dX8_putBars_13 ?_
  refine lv_iload_n hx hb dX8_putBars_16 rfl (lv_at hl 0 rfl) ?_
  refine va_iald hx hb hK hP 1 1 rfl rfl (by unfold vp_in; decide) dX8_putBars_17 ?_
  have hq_7 := hwb 2
  refine lv_ti (y := (nI (wb 2))) (by rfl) ?_
  refine va_iast hx hb hK hP hD hS 2 1 rfl rfl (by unfold vp_in; decide) dX8_putBars_18 (fun H locs hP hD hS => ?_)
  replace hP : va_P D classes [((a 0), .inr (8, [.ref (a 1), .ref (a 2), .ref (a 3), .ref (a 4), .ref (a 5), .int (nI tx), .int fp, .int (nI t0), .long wd, .int (nI we), .int nu, .int na, .int (nI rd), .ref (a 14), .ref (a 15), .ref (a 16), .int ts, .ref (a 18), .ref (a 19), .ref (a 20), .ref (a 21), .ref (a 22), .ref (a 23), .int (nI ru), .ref (a 25), .ref (a 26), .ref (a 27), .ref (a 28), .ref (a 29), .ref (a 30), .int (nI rw), .ref (a 32), .ref (a 33), .ref (a 34), .int (nI ca), .ref (a 36), .ref (a 37), .int df, .int db, .ref (a 40), .ref (a 41), .int sd, .ref (a 43), .ref (a 44)])), ((a 41), .inl (k 1, 4, .inl (nF wb))), ((a 37), .inl (k 1, 4, .inl (upd (nF d_6) (Int32.toNatClampNeg 2) (nI (wb 2)))))] H := hP
  replace hD : va_D A [((a 0), .inr (8, [.ref (a 1), .ref (a 2), .ref (a 3), .ref (a 4), .ref (a 5), .int (nI tx), .int fp, .int (nI t0), .long wd, .int (nI we), .int nu, .int na, .int (nI rd), .ref (a 14), .ref (a 15), .ref (a 16), .int ts, .ref (a 18), .ref (a 19), .ref (a 20), .ref (a 21), .ref (a 22), .ref (a 23), .int (nI ru), .ref (a 25), .ref (a 26), .ref (a 27), .ref (a 28), .ref (a 29), .ref (a 30), .int (nI rw), .ref (a 32), .ref (a 33), .ref (a 34), .int (nI ca), .ref (a 36), .ref (a 37), .int df, .int db, .ref (a 40), .ref (a 41), .int sd, .ref (a 43), .ref (a 44)])), ((a 41), .inl (k 1, 4, .inl (nF wb))), ((a 37), .inl (k 1, 4, .inl (upd (nF d_6) (Int32.toNatClampNeg 2) (nI (wb 2)))))] := hD
  rw [show upd (nF d_6) (Int32.toNatClampNeg 2) (nI (wb 2)) = nF (fun j => if j = 2 then wb 2 else d_6 j) from nF_upd _ _ _] at hP hD
  obtain ⟨d_9, hd_9⟩ : ∃ z : Nat → Nat, z = (fun j => if j = 2 then wb 2 else d_6 j) := ⟨_, rfl⟩
  rw [← hd_9] at hP hD
  have hbb_9 : ∀ j, d_9 j ≤ 24 := by rw [hd_9]; exact up_le hbb_6 (by omega)
  refine lv_iinc (v := 3) (lv' := [(1, .int 3), (0, .ref (a 0))]) hx hb dX8_putBars_19 hl (k := 0) rfl (by decide) (by decide) rfl (fun ls hl => ?_)
  refine lv_goto (tgt := 2) hx hb dX8_putBars_22 (by decide) ?_
  refine lv_iload_n hx hb dX8_putBars_2 rfl (lv_at hl 0 rfl) ?_
  refine lv_iconst (v := 4) hx hb dX8_putBars_3 (by decide) ?_
  refine lv_icmp_ge (tgt := 25) hx hb dX8_putBars_4 (by decide) (fun h => absurd h (by decide)) (fun _ => ?_)
  refine lv_aload_n hx hb dX8_putBars_7 rfl (lv_at hl 1 rfl) ?_
  refine va_get (D := D) (ci := 8) (v := .ref (a 37)) (C := RX8) (T := TX8) (N := 44) hx hb hts inX8 hown hK hP 0 rfl rfl 36 (by decide) (hts _ tw_1009) (fun _ h9 => h9) rfl dX8_putBars_8 ?_
  refine lv_iload_n hx hb dX8_putBars_11 rfl (lv_at hl 0 rfl) ?_
  refine lv_aload_n hx hb dX8_putBars_12 rfl (lv_at hl 1 rfl) ?_
  refine va_get (D := D) (ci := 8) (v := .ref (a 41)) (C := RX8) (T := TX8) (N := 44) hx hb hts inX8 hown hK hP 0 rfl rfl 40 (by decide) (hts _ tw_1013) (fun _ h9 => h9) rfl dX8_putBars_13 ?_
  refine lv_iload_n hx hb dX8_putBars_16 rfl (lv_at hl 0 rfl) ?_
  refine va_iald hx hb hK hP 1 1 rfl rfl (by unfold vp_in; decide) dX8_putBars_17 ?_
  have hq_10 := hwb 3
  refine lv_ti (y := (nI (wb 3))) (by rfl) ?_
  refine va_iast hx hb hK hP hD hS 2 1 rfl rfl (by unfold vp_in; decide) dX8_putBars_18 (fun H locs hP hD hS => ?_)
  replace hP : va_P D classes [((a 0), .inr (8, [.ref (a 1), .ref (a 2), .ref (a 3), .ref (a 4), .ref (a 5), .int (nI tx), .int fp, .int (nI t0), .long wd, .int (nI we), .int nu, .int na, .int (nI rd), .ref (a 14), .ref (a 15), .ref (a 16), .int ts, .ref (a 18), .ref (a 19), .ref (a 20), .ref (a 21), .ref (a 22), .ref (a 23), .int (nI ru), .ref (a 25), .ref (a 26), .ref (a 27), .ref (a 28), .ref (a 29), .ref (a 30), .int (nI rw), .ref (a 32), .ref (a 33), .ref (a 34), .int (nI ca), .ref (a 36), .ref (a 37), .int df, .int db, .ref (a 40), .ref (a 41), .int sd, .ref (a 43), .ref (a 44)])), ((a 41), .inl (k 1, 4, .inl (nF wb))), ((a 37), .inl (k 1, 4, .inl (upd (nF d_9) (Int32.toNatClampNeg 3) (nI (wb 3)))))] H := hP
  replace hD : va_D A [((a 0), .inr (8, [.ref (a 1), .ref (a 2), .ref (a 3), .ref (a 4), .ref (a 5), .int (nI tx), .int fp, .int (nI t0), .long wd, .int (nI we), .int nu, .int na, .int (nI rd), .ref (a 14), .ref (a 15), .ref (a 16), .int ts, .ref (a 18), .ref (a 19), .ref (a 20), .ref (a 21), .ref (a 22), .ref (a 23), .int (nI ru), .ref (a 25), .ref (a 26), .ref (a 27), .ref (a 28), .ref (a 29), .ref (a 30), .int (nI rw), .ref (a 32), .ref (a 33), .ref (a 34), .int (nI ca), .ref (a 36), .ref (a 37), .int df, .int db, .ref (a 40), .ref (a 41), .int sd, .ref (a 43), .ref (a 44)])), ((a 41), .inl (k 1, 4, .inl (nF wb))), ((a 37), .inl (k 1, 4, .inl (upd (nF d_9) (Int32.toNatClampNeg 3) (nI (wb 3)))))] := hD
  rw [show upd (nF d_9) (Int32.toNatClampNeg 3) (nI (wb 3)) = nF (fun j => if j = 3 then wb 3 else d_9 j) from nF_upd _ _ _] at hP hD
  obtain ⟨d_12, hd_12⟩ : ∃ z : Nat → Nat, z = (fun j => if j = 3 then wb 3 else d_9 j) := ⟨_, rfl⟩
  rw [← hd_12] at hP hD
  have hbb_12 : ∀ j, d_12 j ≤ 24 := by rw [hd_12]; exact up_le hbb_9 (by omega)
  refine lv_iinc (v := 4) (lv' := [(1, .int 4), (0, .ref (a 0))]) hx hb dX8_putBars_19 hl (k := 0) rfl (by decide) (by decide) rfl (fun ls hl => ?_)
  refine lv_goto (tgt := 2) hx hb dX8_putBars_22 (by decide) ?_
  refine lv_iload_n hx hb dX8_putBars_2 rfl (lv_at hl 0 rfl) ?_
  refine lv_iconst (v := 4) hx hb dX8_putBars_3 (by decide) ?_
  refine lv_icmp_ge (tgt := 25) hx hb dX8_putBars_4 (by decide) (fun _ => ?_) (fun h => absurd (by decide) h)
  have hP9 := hP.sub (ws' := [((a 0), .inr (8, [.ref (a 1), .ref (a 2), .ref (a 3), .ref (a 4), .ref (a 5), .int (nI tx), .int fp, .int (nI t0), .long wd, .int (nI we), .int nu, .int na, .int (nI rd), .ref (a 14), .ref (a 15), .ref (a 16), .int ts, .ref (a 18), .ref (a 19), .ref (a 20), .ref (a 21), .ref (a 22), .ref (a 23), .int (nI ru), .ref (a 25), .ref (a 26), .ref (a 27), .ref (a 28), .ref (a 29), .ref (a 30), .int (nI rw), .ref (a 32), .ref (a 33), .ref (a 34), .int (nI ca), .ref (a 36), .ref (a 37), .int df, .int db, .ref (a 40), .ref (a 41), .int sd, .ref (a 43), .ref (a 44)])), ((a 41), .inl (k 1, 4, .inl (nF wb))), ((a 37), .inl (k 1, 4, .inl (nF d_12)))]) [0, 1, 2] rfl
  have hD9 := hD.sub (ws' := [((a 0), .inr (8, [.ref (a 1), .ref (a 2), .ref (a 3), .ref (a 4), .ref (a 5), .int (nI tx), .int fp, .int (nI t0), .long wd, .int (nI we), .int nu, .int na, .int (nI rd), .ref (a 14), .ref (a 15), .ref (a 16), .int ts, .ref (a 18), .ref (a 19), .ref (a 20), .ref (a 21), .ref (a 22), .ref (a 23), .int (nI ru), .ref (a 25), .ref (a 26), .ref (a 27), .ref (a 28), .ref (a 29), .ref (a 30), .int (nI rw), .ref (a 32), .ref (a 33), .ref (a 34), .int (nI ca), .ref (a 36), .ref (a 37), .int df, .int db, .ref (a 40), .ref (a 41), .int sd, .ref (a 43), .ref (a 44)])), ((a 41), .inl (k 1, 4, .inl (nF wb))), ((a 37), .inl (k 1, 4, .inl (nF d_12)))]) [0, 1, 2] (by decide) rfl
  exact W.vret hx hb hr (fun t ht hW => ⟨⟨d_12, rfl, hbb_12, by rw [ht]; exact hP9, hD9⟩, hS.F ht⟩) hS.2.2 dX8_putBars_25


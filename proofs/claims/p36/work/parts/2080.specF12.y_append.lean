set_option maxHeartbeats 4000000 in
set_option maxRecDepth 100000 in
theorem y_append (l : Launch) (D : va_G) (k : Nat → ClassId) (st : Nat → Nat) (lo : Nat) (x0 : Nat) (x1 : Nat) (tz : Nat) (ta : Int32) (na : Int32) (fn : Int32) (fb : Int32) (fx : Nat → Int32) (p0 : Int32) (hz : tz < 240) : CWv l D k st lo yX6_append cX6_append 2 none ({ frames := 0, cells := 0, slots := 0, locals := 0 }) 0 0 [.ref x0, .int p0] [(x0, .inr (6, (fX6 x1 (nI tz) ta na fn fb))), (aB k x1 240 fx)] (fun (u : Nat × (Nat → Int32)) => match u with | (tz_, fx_) => tz_ = tz + 1 ∧ fx_ = upd fx tz (vp_nar .byte p0)) (fun (u : Nat × (Nat → Int32)) => match u with | (tz_, fx_) => [(x0, .inr (6, (fX6 x1 (nI tz_) ta na fn fb))), (aB k x1 240 fx_)]) := by
  intro sz
  refine Met.ofW (cc := cX6_append) (maxL := 2) (ret := none) (by decide) rfl ?_
  intro p e s m args below meth c s₁ B hml hv
  obtain ⟨rfl, hsz, hlo, hP, hK, hDL, hZ⟩ := hv
  have hx := B.exec
  have hb := B.bytes
  have hr := B.returns
  have hts := WS_ts B.pre
  have hown : s.vm.findClass RX6 = some m.cls := findClass_of_methodNamed B.named
  have hlocks := B.notSynchronized
  subst hsz
  have hD := hDL.self (sz := s.heap.size)
  have hAlo := A_lo hDL hlo
  generalize hAe : va_A [(x0, .inr (6, (fX6 x1 (nI tz) ta na fn fb))), (aB k x1 240 fx)] s.heap.size = A at hD hAlo ⊢
  have hA : ∀ q : Nat, s.heap.size ≤ q → A q := fun q h => by rw [← hAe]; exact Or.inr h
  have hS : va_S A s.heap s.heap [] := va_S.rf
  have hl := lv_entry ([.ref x0, .int p0]) (n := 2) (Nat.le_of_ble_eq_true rfl)
  rw [lg_entry_eq]
  generalize (lg_sl ([.ref x0, .int p0]) ++ List.replicate (2 - (lg_sl ([.ref x0, .int p0])).length) Slot.unset).toArray = ls at hl ⊢
  have hl : lv_has ls 2 [(0, .ref x0), (1, .int p0)] := hl
  refine lv_aload_n hx hb dX6_append_0 rfl (lv_at hl 0 rfl) ?_
  refine va_get (D := D) (ci := 6) (v := .int (nI tz)) (C := RX6) (T := TX6) (N := 6) hx hb hts inX6 hown hK hP 0 rfl rfl 1 (by decide) (hts _ tw_110) (fun _ h9 => h9) rfl dX6_append_1 ?_
  refine lv_sipush (v := 240) hx hb dX6_append_4 (by decide) ?_
  refine lv_icmp_ge (tgt := 30) hx hb dX6_append_7 (by decide) (fun h => absurd ((nI_leI (a := 240) (b := tz) (by omega) (by omega)).mp h) (by omega)) (fun _ => ?_)
  refine lv_aload_n hx hb dX6_append_10 rfl (lv_at hl 0 rfl) ?_
  refine va_get (D := D) (ci := 6) (v := .ref x1) (C := RX6) (T := TX6) (N := 6) hx hb hts inX6 hown hK hP 0 rfl rfl 0 (by decide) (hts _ tw_109) (fun _ h9 => h9) rfl dX6_append_11 ?_
  refine lv_aload_n hx hb dX6_append_14 rfl (lv_at hl 0 rfl) ?_
  refine va_get (D := D) (ci := 6) (v := .int (nI tz)) (C := RX6) (T := TX6) (N := 6) hx hb hts inX6 hown hK hP 0 rfl rfl 1 (by decide) (hts _ tw_110) (fun _ h9 => h9) rfl dX6_append_15 ?_
  refine lv_iload_n hx hb dX6_append_18 rfl (lv_at hl 1 rfl) ?_
  refine va_bast hx hb hK hP hD hS 1 0 rfl rfl (vp_in_nI (by omega) (by decide)) dX6_append_19 (fun H locs hP hD hS => ?_)
  replace hP : va_P D classes [(x0, .inr (6, (fX6 x1 (nI tz) ta na fn fb))), (aB k x1 240 (upd fx (Int32.toNatClampNeg (nI tz)) (vp_nar .byte p0)))] H := hP
  replace hD : va_D A [(x0, .inr (6, (fX6 x1 (nI tz) ta na fn fb))), (aB k x1 240 (upd fx (Int32.toNatClampNeg (nI tz)) (vp_nar .byte p0)))] := hD
  rw [nI_clamp (n := tz) (by omega)] at hP hD
  replace hP : va_P D classes [(x0, .inr (6, (fX6 x1 (nI tz) ta na fn fb))), (aB k x1 240 (upd fx tz (vp_nar .byte p0)))] H := hP
  replace hD : va_D A [(x0, .inr (6, (fX6 x1 (nI tz) ta na fn fb))), (aB k x1 240 (upd fx tz (vp_nar .byte p0)))] := hD
  refine lv_aload_n hx hb dX6_append_20 rfl (lv_at hl 0 rfl) ?_
  refine lv_dup hx hb dX6_append_21 rfl ?_
  refine va_get (D := D) (ci := 6) (v := .int (nI tz)) (C := RX6) (T := TX6) (N := 6) hx hb hts inX6 hown hK hP 0 rfl rfl 1 (by decide) (hts _ tw_110) (fun _ h9 => h9) rfl dX6_append_22 ?_
  refine lv_iconst (v := 1) hx hb dX6_append_25 (by decide) ?_
  refine lv_iadd hx hb dX6_append_26 ?_
  refine lv_ti (y := (nI (tz + 1))) (nI_add tz 1) ?_
  refine va_put (D := D) (ci := 6) (v := .int (nI (tz + 1))) (ty := .int) (C := RX6) (T := TX6) (N := 6) hx hb hts inX6 tyX6 tyX6_ok nmX6 hown hK hP hD hS 0 rfl rfl 1 (by decide) (hts _ tw_110) (fun _ h9 => h9) rfl (by decide +kernel) rfl rfl (Nat.le_of_ble_eq_true rfl) dX6_append_27 (fun H locs hP hD hS => ?_)
  replace hP : va_P D classes [(x0, .inr (6, (fX6 x1 (nI (tz + 1)) ta na fn fb))), (aB k x1 240 (upd fx tz (vp_nar .byte p0)))] H := hP
  replace hD : va_D A [(x0, .inr (6, (fX6 x1 (nI (tz + 1)) ta na fn fb))), (aB k x1 240 (upd fx tz (vp_nar .byte p0)))] := hD
  have hP9 := hP.sub (ws' := [(x0, .inr (6, (fX6 x1 (nI (tz + 1)) ta na fn fb))), (aB k x1 240 (upd fx tz (vp_nar .byte p0)))]) [0, 1] rfl
  have hD9 := hD.sub (ws' := [(x0, .inr (6, (fX6 x1 (nI (tz + 1)) ta na fn fb))), (aB k x1 240 (upd fx tz (vp_nar .byte p0)))]) [0, 1] (by decide) rfl
  exact W.vret hx hb hr (fun t ht hW => ⟨⟨((tz + 1), (upd fx tz (vp_nar .byte p0))), rfl, ⟨rfl, rfl⟩, by rw [ht]; exact hP9, hD9⟩, hS.F ht⟩) hS.2.2 dX6_append_30


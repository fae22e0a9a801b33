def fX_takingBy (n : Nat) (fp : Nat → Int32) (fl : Nat → Int32) (p0 : Int32) (rn : Nat) (i : Nat) : Int32 := ((((fp i) + (p0 * ((nI n) - (nI i)))) + (fl rn)) * 1000)
set_option maxHeartbeats 4000000 in
set_option maxRecDepth 100000 in
theorem y_takingBy (l : Launch) (D : va_G) (k : Nat → ClassId) (st : Nat → Nat) (lo : Nat) (h0 : Nat) (h1 : Nat) (h2 : Nat) (h3 : Nat) (h4 : Nat) (n : Nat) (see : Nat) (tm : Nat) (g : Nat → Int32) (fp : Nat → Int32) (fl : Nat → Int32) (p0 : Int32) (rn : Nat) (i : Nat) (hrn : rn ≤ 3) (hi : i < 24) : CRi l D k st lo yX5_takingBy cX5_takingBy 4 (some .int) ({ frames := 0, cells := 0, slots := 0, locals := 0 }) [.ref h0, .int p0, .int (nI rn), .int (nI i)] [(h0, .inr (5, (fX5 h1 h2 h3 h4))), (aI k h1 10 (vv n see tm g)), (aI k h3 24 fp), (aI k h4 4 fl)] (fun r => r = fX_takingBy n fp fl p0 rn i) := by
  intro sz
  refine Met.ofW (cc := cX5_takingBy) (maxL := 4) (ret := (some .int)) (by decide) rfl ?_
  intro p e s m args below meth c s₁ B hml hv
  obtain ⟨rfl, hsz, hlo, hP, hK, hDL, hZ⟩ := hv
  have hx := B.exec
  have hb := B.bytes
  have hr := B.returns
  have hts := WS_ts B.pre
  have hown : s.vm.findClass RX5 = some m.cls := findClass_of_methodNamed B.named
  have hlocks := B.notSynchronized
  subst hsz
  have hA : ∀ q : Nat, s.heap.size ≤ q → (fun q : Nat => s.heap.size ≤ q) q := fun _ h => h
  have hAlo : ∀ q : Nat, (fun q : Nat => s.heap.size ≤ q) q → lo ≤ q := fun q h => Nat.le_trans hlo h
  have hS : va_S (fun q : Nat => s.heap.size ≤ q) s.heap s.heap [] := va_S.rf
  have hl := lv_entry ([.ref h0, .int p0, .int (nI rn), .int (nI i)]) (n := 4) (Nat.le_of_ble_eq_true rfl)
  rw [lg_entry_eq]
  generalize (lg_sl ([.ref h0, .int p0, .int (nI rn), .int (nI i)]) ++ List.replicate (4 - (lg_sl ([.ref h0, .int p0, .int (nI rn), .int (nI i)])).length) Slot.unset).toArray = ls at hl ⊢
  have hl : lv_has ls 4 [(0, .ref h0), (1, .int p0), (2, .int (nI rn)), (3, .int (nI i))] := hl
  refine lv_aload_n hx hb dX5_takingBy_0 rfl (lv_at hl 0 rfl) ?_
  refine va_get (D := D) (ci := 5) (v := .ref h3) (C := RX5) (T := TX5) (N := 4) hx hb hts inX5 hown hK hP 0 rfl rfl 2 (by decide) (hts _ tw_152) (fun _ h9 => h9) rfl dX5_takingBy_1 ?_
  refine lv_iload_n hx hb dX5_takingBy_4 rfl (lv_at hl 3 rfl) ?_
  refine va_iald hx hb hK hP 2 1 rfl rfl (vp_in_nI (by omega) (by decide)) dX5_takingBy_5 ?_
  refine lv_ti (y := (fp i)) (by rw [nI_clamp (by omega)]) ?_
  refine lv_iload_n hx hb dX5_takingBy_6 rfl (lv_at hl 1 rfl) ?_
  refine lv_aload_n hx hb dX5_takingBy_7 rfl (lv_at hl 0 rfl) ?_
  refine va_get (D := D) (ci := 5) (v := .ref h1) (C := RX5) (T := TX5) (N := 4) hx hb hts inX5 hown hK hP 0 rfl rfl 0 (by decide) (hts _ tw_146) (fun _ h9 => h9) rfl dX5_takingBy_8 ?_
  refine lv_iconst (v := 0) hx hb dX5_takingBy_11 (by decide) ?_
  refine va_iald hx hb hK hP 1 1 rfl rfl (by unfold vp_in; decide) dX5_takingBy_12 ?_
  refine lv_ti (y := (nI n)) (by rfl) ?_
  refine lv_iload_n hx hb dX5_takingBy_13 rfl (lv_at hl 3 rfl) ?_
  refine lv_isub hx hb dX5_takingBy_14 ?_
  refine lv_topi (fun x_1 ex_1 => ?_)
  refine lv_imul hx hb dX5_takingBy_15 ?_
  refine lv_topi (fun x_2 ex_2 => ?_)
  refine lv_iadd hx hb dX5_takingBy_16 ?_
  refine lv_topi (fun x_3 ex_3 => ?_)
  refine lv_aload_n hx hb dX5_takingBy_17 rfl (lv_at hl 0 rfl) ?_
  refine va_get (D := D) (ci := 5) (v := .ref h4) (C := RX5) (T := TX5) (N := 4) hx hb hts inX5 hown hK hP 0 rfl rfl 3 (by decide) (hts _ tw_154) (fun _ h9 => h9) rfl dX5_takingBy_18 ?_
  refine lv_iload_n hx hb dX5_takingBy_21 rfl (lv_at hl 2 rfl) ?_
  refine va_iald hx hb hK hP 3 1 rfl rfl (vp_in_nI (by omega) (by decide)) dX5_takingBy_22 ?_
  refine lv_ti (y := (fl rn)) (by rw [nI_clamp (by omega)]) ?_
  refine lv_iadd hx hb dX5_takingBy_23 ?_
  refine lv_topi (fun x_4 ex_4 => ?_)
  refine lv_sipush (v := 1000) hx hb dX5_takingBy_24 (by decide) ?_
  refine lv_imul hx hb dX5_takingBy_27 ?_
  refine lv_topi (fun x_5 ex_5 => ?_)
  exact W.iret (v := x_5) hx hb hr (fun t ht hW => ⟨⟨x_5, (), rfl, (by show _ = fX_takingBy n fp fl p0 rn i; unfold fX_takingBy; first | (rw [ex_5, ex_4, ex_3, ex_2, ex_1]; done) | (rw [ex_5, ex_4, ex_3, ex_2, ex_1]; rfl) | (simp only [ex_5, ex_4, ex_3, ex_2, ex_1]; done)), trivial⟩, hS.F ht⟩) hS.2.2 dX5_takingBy_28


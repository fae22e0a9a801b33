def fX_chance (g : Nat → Int32) (ff : Nat → Int32) (i : Nat) (p1 : Int32) : Int32 := (if i = 0 then (ff i) else (if 0 < (if (if p1 = 0 then ((ff i) - (g 1)) else ((ff i) + (g 1))) < 100 then (if p1 = 0 then ((ff i) - (g 1)) else ((ff i) + (g 1))) else 100) then (if (if p1 = 0 then ((ff i) - (g 1)) else ((ff i) + (g 1))) < 100 then (if p1 = 0 then ((ff i) - (g 1)) else ((ff i) + (g 1))) else 100) else 0))
set_option maxHeartbeats 4000000 in
set_option maxRecDepth 100000 in
theorem y_chanceOf (l : Launch) (D : va_G) (k : Nat → ClassId) (st : Nat → Nat) (lo : Nat) (h0 : Nat) (h1 : Nat) (h2 : Nat) (h3 : Nat) (h4 : Nat) (n : Nat) (see : Nat) (tm : Nat) (g : Nat → Int32) (ff : Nat → Int32) (i : Nat) (p1 : Int32) (hi : i < 24) : CRi l D k st lo yX5_chanceOf cX5_chanceOf 4 (some .int) ({ frames := 1, cells := 0, slots := 0, locals := 60 }) [.ref h0, .int (nI i), .int p1] [(h0, .inr (5, (fX5 h1 h2 h3 h4))), (aI k h1 10 (vv n see tm g)), (aI k h2 24 ff)] (fun r => r = fX_chance g ff i p1) := by
  intro sz
  refine Met.ofW (cc := cX5_chanceOf) (maxL := 4) (ret := (some .int)) (by decide) rfl ?_
  intro p e s m args below meth c s₁ B hml hv
  obtain ⟨rfl, hsz, hlo, hP, hK, hDL, hZ⟩ := hv
  have hx := B.exec
  have hb := B.bytes
  have hr := B.returns
  have hts := WS_ts B.pre
  have hown : s.vm.findClass RX5 = some m.cls := findClass_of_methodNamed B.named
  have hlocks := B.notSynchronized
  subst hsz
  have hA : ∀ q : Nat, s.heap.size ≤ q → (fun q : Nat => s.heap.size ≤ q) q := fun _ h => h
  have hAlo : ∀ q : Nat, (fun q : Nat => s.heap.size ≤ q) q → lo ≤ q := fun q h => Nat.le_trans hlo h
  have hS : va_S (fun q : Nat => s.heap.size ≤ q) s.heap s.heap [] := va_S.rf
  have hl := lv_entry ([.ref h0, .int (nI i), .int p1]) (n := 4) (Nat.le_of_ble_eq_true rfl)
  rw [lg_entry_eq]
  generalize (lg_sl ([.ref h0, .int (nI i), .int p1]) ++ List.replicate (4 - (lg_sl ([.ref h0, .int (nI i), .int p1])).length) Slot.unset).toArray = ls at hl ⊢
  have hl : lv_has ls 4 [(0, .ref h0), (1, .int (nI i)), (2, .int p1)] := hl
  refine lv_iload_n hx hb dX5_chanceOf_0 rfl (lv_at hl 1 rfl) ?_
  refine lv_if_ne (tgt := 11) hx hb dX5_chanceOf_1 (by decide) (fun c_1 => ?_) (fun c_1 => ?_)
  · have c_1 : ¬ (i = 0) := fun h => c_1 ((nI_eq (a := i) (b := 0) (by omega) (by omega)).mpr h)
    refine lv_iload_n hx hb dX5_chanceOf_11 rfl (lv_at hl 2 rfl) ?_
    refine W_join (fun (x_5 : Int32) (H : Heap) (locs : List Loc) (ls : Array Slot) => x_5 = (if p1 = 0 then ((ff i) - (g 1)) else ((ff i) + (g 1))) ∧ va_P D classes [(h0, .inr (5, (fX5 h1 h2 h3 h4))), (aI k h1 10 (vv n see tm g)), (aI k h2 24 ff)] H ∧ va_S (fun q : Nat => s.heap.size ≤ q) s.heap H locs ∧ lv_has ls 4 [(2, .int p1), (1, .int (nI i)), (0, .ref h0)]) (fun (x_5 : Int32) => [.int x_5]) 44 (fun x_5 H locs ls hJ => ?_) (fun J_5 => ?_)
    · obtain ⟨hj_5, hP, hS, hl⟩ := hJ
      show W p l e _ s m _ below meth c H locs _ _ _ (F0 m 44 ls [.int x_5])
      refine lv_istore_n (lv' := [(3, .int x_5), (2, .int p1), (1, .int (nI i)), (0, .ref h0)]) hx hb dX5_chanceOf_44 rfl hl (by decide) rfl (fun ls hl => ?_)
      refine lv_iconst (v := 0) hx hb dX5_chanceOf_45 (by decide) ?_
      refine lv_bipush (v := 100) hx hb dX5_chanceOf_46 (by decide) ?_
      refine lv_iload_n hx hb dX5_chanceOf_48 rfl (lv_at hl 0 rfl) ?_
      refine va_mmin hx hb (by rw [hml]; exact hl.1.symm) hown (hts _ tw_540) (hts _ tw_529) (hts _ tw_93) (hts _ tw_530) (Nat.le_of_ble_eq_true rfl) (Nat.le_of_ble_eq_true rfl) (Nat.le_of_ble_eq_true rfl) (Nat.le_of_ble_eq_true rfl) dX5_chanceOf_49 ?_
      refine lv_topi (fun x_6 ex_6 => ?_)
      refine va_mmax hx hb (by rw [hml]; exact hl.1.symm) hown (hts _ tw_509) (hts _ tw_510) (hts _ tw_93) (hts _ tw_511) (Nat.le_of_ble_eq_true rfl) (Nat.le_of_ble_eq_true rfl) (Nat.le_of_ble_eq_true rfl) (Nat.le_of_ble_eq_true rfl) dX5_chanceOf_52 ?_
      refine lv_topi (fun x_7 ex_7 => ?_)
      exact W.iret (v := x_7) hx hb hr (fun t ht hW => ⟨⟨x_7, (), rfl, (by show _ = fX_chance g ff i p1; unfold fX_chance; first | (rw [if_neg c_1, ex_7, ex_6, hj_5]; done) | (rw [if_neg c_1, ex_7, ex_6, hj_5]; rfl) | (simp only [if_neg c_1, ex_7, ex_6, hj_5]; done)), trivial⟩, hS.F ht⟩) hS.2.2 dX5_chanceOf_55
    · refine lv_if_eq (tgt := 31) hx hb dX5_chanceOf_12 (by decide) (fun c_8 => ?_) (fun c_8 => ?_)
      · refine lv_aload_n hx hb dX5_chanceOf_31 rfl (lv_at hl 0 rfl) ?_
        refine va_get (D := D) (ci := 5) (v := .ref h2) (C := RX5) (T := TX5) (N := 4) hx hb hts inX5 hown hK hP 0 rfl rfl 1 (by decide) (hts _ tw_150) (fun _ h9 => h9) rfl dX5_chanceOf_32 ?_
        refine lv_iload_n hx hb dX5_chanceOf_35 rfl (lv_at hl 1 rfl) ?_
        refine va_iald hx hb hK hP 2 1 rfl rfl (vp_in_nI (by omega) (by decide)) dX5_chanceOf_36 ?_
        refine lv_ti (y := (ff i)) (by rw [nI_clamp (by omega)]) ?_
        refine lv_aload_n hx hb dX5_chanceOf_37 rfl (lv_at hl 0 rfl) ?_
        refine va_get (D := D) (ci := 5) (v := .ref h1) (C := RX5) (T := TX5) (N := 4) hx hb hts inX5 hown hK hP 0 rfl rfl 0 (by decide) (hts _ tw_146) (fun _ h9 => h9) rfl dX5_chanceOf_38 ?_
        refine lv_iconst (v := 1) hx hb dX5_chanceOf_41 (by decide) ?_
        refine va_iald hx hb hK hP 1 1 rfl rfl (by unfold vp_in; decide) dX5_chanceOf_42 ?_
        refine lv_ti (y := (g 1)) (by rfl) ?_
        refine lv_isub hx hb dX5_chanceOf_43 ?_
        refine lv_topi (fun x_9 ex_9 => ?_)
        exact J_5 x_9 _ _ _ ⟨(by first | (rw [if_pos c_8, ex_9]; done) | (rw [if_pos c_8, ex_9]; rfl) | (simp only [if_pos c_8, ex_9]; done)), hP, hS, lv_sub hl [2, 1, 0] rfl⟩
      · refine lv_aload_n hx hb dX5_chanceOf_15 rfl (lv_at hl 0 rfl) ?_
        refine va_get (D := D) (ci := 5) (v := .ref h2) (C := RX5) (T := TX5) (N := 4) hx hb hts inX5 hown hK hP 0 rfl rfl 1 (by decide) (hts _ tw_150) (fun _ h9 => h9) rfl dX5_chanceOf_16 ?_
        refine lv_iload_n hx hb dX5_chanceOf_19 rfl (lv_at hl 1 rfl) ?_
        refine va_iald hx hb hK hP 2 1 rfl rfl (vp_in_nI (by omega) (by decide)) dX5_chanceOf_20 ?_
        refine lv_ti (y := (ff i)) (by rw [nI_clamp (by omega)]) ?_
        refine lv_aload_n hx hb dX5_chanceOf_21 rfl (lv_at hl 0 rfl) ?_
        refine va_get (D := D) (ci := 5) (v := .ref h1) (C := RX5) (T := TX5) (N := 4) hx hb hts inX5 hown hK hP 0 rfl rfl 0 (by decide) (hts _ tw_146) (fun _ h9 => h9) rfl dX5_chanceOf_22 ?_
        refine lv_iconst (v := 1) hx hb dX5_chanceOf_25 (by decide) ?_
        refine va_iald hx hb hK hP 1 1 rfl rfl (by unfold vp_in; decide) dX5_chanceOf_26 ?_
        refine lv_ti (y := (g 1)) (by rfl) ?_
        refine lv_iadd hx hb dX5_chanceOf_27 ?_
        refine lv_topi (fun x_10 ex_10 => ?_)
        refine lv_goto (tgt := 44) hx hb dX5_chanceOf_28 (by decide) ?_
        exact J_5 x_10 _ _ _ ⟨(by first | (rw [if_neg c_8, ex_10]; done) | (rw [if_neg c_8, ex_10]; rfl) | (simp only [if_neg c_8, ex_10]; done)), hP, hS, lv_sub hl [2, 1, 0] rfl⟩
  · have c_1 := (nI_eq (a := i) (b := 0) (by omega) (by omega)).mp c_1
    refine lv_aload_n hx hb dX5_chanceOf_4 rfl (lv_at hl 0 rfl) ?_
    refine va_get (D := D) (ci := 5) (v := .ref h2) (C := RX5) (T := TX5) (N := 4) hx hb hts inX5 hown hK hP 0 rfl rfl 1 (by decide) (hts _ tw_150) (fun _ h9 => h9) rfl dX5_chanceOf_5 ?_
    refine lv_iload_n hx hb dX5_chanceOf_8 rfl (lv_at hl 1 rfl) ?_
    refine va_iald hx hb hK hP 2 1 rfl rfl (vp_in_nI (by omega) (by decide)) dX5_chanceOf_9 ?_
    refine lv_ti (y := (ff i)) (by rw [nI_clamp (by omega)]) ?_
    exact W.iret (v := (ff i)) hx hb hr (fun t ht hW => ⟨⟨(ff i), (), rfl, (by show _ = fX_chance g ff i p1; unfold fX_chance; first | (rw [if_pos c_1]; done) | (rw [if_pos c_1]; rfl) | (simp only [if_pos c_1]; done)), trivial⟩, hS.F ht⟩) hS.2.2 dX5_chanceOf_10


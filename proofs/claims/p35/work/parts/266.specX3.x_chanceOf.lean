theorem dX5_chanceOf_0 : decode cX5_chanceOf 0 = .ok (.iload_n 1, 1) := by decide +kernel
theorem dX5_chanceOf_1 : decode cX5_chanceOf 1 = .ok (.ifCond .ne 10, 3) := by decide +kernel
theorem dX5_chanceOf_4 : decode cX5_chanceOf 4 = .ok (.aload_n 0, 1) := by decide +kernel
theorem dX5_chanceOf_5 : decode cX5_chanceOf 5 = .ok (.getfield 15, 3) := by decide +kernel
theorem dX5_chanceOf_8 : decode cX5_chanceOf 8 = .ok (.iload_n 1, 1) := by decide +kernel
theorem dX5_chanceOf_9 : decode cX5_chanceOf 9 = .ok (.iaload, 1) := by decide +kernel
theorem dX5_chanceOf_10 : decode cX5_chanceOf 10 = .ok (.ireturn, 1) := by decide +kernel
theorem dX5_chanceOf_11 : decode cX5_chanceOf 11 = .ok (.iload_n 2, 1) := by decide +kernel
theorem dX5_chanceOf_12 : decode cX5_chanceOf 12 = .ok (.ifCond .eq 19, 3) := by decide +kernel
theorem dX5_chanceOf_15 : decode cX5_chanceOf 15 = .ok (.aload_n 0, 1) := by decide +kernel
theorem dX5_chanceOf_16 : decode cX5_chanceOf 16 = .ok (.getfield 15, 3) := by decide +kernel
theorem dX5_chanceOf_19 : decode cX5_chanceOf 19 = .ok (.iload_n 1, 1) := by decide +kernel
theorem dX5_chanceOf_20 : decode cX5_chanceOf 20 = .ok (.iaload, 1) := by decide +kernel
theorem dX5_chanceOf_21 : decode cX5_chanceOf 21 = .ok (.aload_n 0, 1) := by decide +kernel
theorem dX5_chanceOf_22 : decode cX5_chanceOf 22 = .ok (.getfield 9, 3) := by decide +kernel
theorem dX5_chanceOf_25 : decode cX5_chanceOf 25 = .ok (.iconst 1, 1) := by decide +kernel
theorem dX5_chanceOf_26 : decode cX5_chanceOf 26 = .ok (.iaload, 1) := by decide +kernel
theorem dX5_chanceOf_27 : decode cX5_chanceOf 27 = .ok (.iadd, 1) := by decide +kernel
theorem dX5_chanceOf_28 : decode cX5_chanceOf 28 = .ok (.goto 16, 3) := by decide +kernel
theorem dX5_chanceOf_31 : decode cX5_chanceOf 31 = .ok (.aload_n 0, 1) := by decide +kernel
theorem dX5_chanceOf_32 : decode cX5_chanceOf 32 = .ok (.getfield 15, 3) := by decide +kernel
theorem dX5_chanceOf_35 : decode cX5_chanceOf 35 = .ok (.iload_n 1, 1) := by decide +kernel
theorem dX5_chanceOf_36 : decode cX5_chanceOf 36 = .ok (.iaload, 1) := by decide +kernel
theorem dX5_chanceOf_37 : decode cX5_chanceOf 37 = .ok (.aload_n 0, 1) := by decide +kernel
theorem dX5_chanceOf_38 : decode cX5_chanceOf 38 = .ok (.getfield 9, 3) := by decide +kernel
theorem dX5_chanceOf_41 : decode cX5_chanceOf 41 = .ok (.iconst 1, 1) := by decide +kernel
theorem dX5_chanceOf_42 : decode cX5_chanceOf 42 = .ok (.iaload, 1) := by decide +kernel
theorem dX5_chanceOf_43 : decode cX5_chanceOf 43 = .ok (.isub, 1) := by decide +kernel
theorem dX5_chanceOf_44 : decode cX5_chanceOf 44 = .ok (.istore_n 3, 1) := by decide +kernel
theorem dX5_chanceOf_45 : decode cX5_chanceOf 45 = .ok (.iconst 0, 1) := by decide +kernel
theorem dX5_chanceOf_46 : decode cX5_chanceOf 46 = .ok (.bipush 100, 2) := by decide +kernel
theorem dX5_chanceOf_48 : decode cX5_chanceOf 48 = .ok (.iload_n 3, 1) := by decide +kernel
theorem dX5_chanceOf_49 : decode cX5_chanceOf 49 = .ok (.invokestatic 129, 3) := by decide +kernel
theorem dX5_chanceOf_52 : decode cX5_chanceOf 52 = .ok (.invokestatic 34, 3) := by decide +kernel
theorem dX5_chanceOf_55 : decode cX5_chanceOf 55 = .ok (.ireturn, 1) := by decide +kernel
set_option maxHeartbeats 4000000 in
set_option maxRecDepth 100000 in
theorem x_chanceOf (l : Launch) (D : va_G) (k : Nat → ClassId) (st : Nat → Nat) (lo : Nat) (h0 : Nat) (h1 : Nat) (h2 : Nat) (h3 : Nat) (h4 : Nat) (n : Nat) (see : Nat) (tm : Nat) (g : Nat → Int32) (ff : Nat → Int32) (i : Nat) (p1 : Int32) (hi : i < 24) : CRi l D k st lo yX5_chanceOf cX5_chanceOf 4 (some .int) ({ frames := 1, cells := 0, slots := 0, locals := 60 }) [.ref h0, .int (nI i), .int p1] [(h0, .inr (5, [.ref h1, .ref h2, .ref h3, .ref h4])), (h1, .inl (k 1, 10, .inl (vv n see tm g))), (h2, .inl (k 1, 24, .inl ff))] (fun _ => True) := by
  intro sz
  refine Met.ofW (cc := cX5_chanceOf) (maxL := 4) (ret := (some .int)) (by decide) rfl ?_
  intro p e s m args below meth c s₁ B hml hv
  obtain ⟨rfl, hsz, hlo, hP, hK, hDL, hZ⟩ := hv
  have hx := B.exec
  have hb := B.bytes
  have hr := B.returns
  have hts := WS_ts B.pre
  have hown : s.vm.findClass RX5 = some m.cls := findClass_of_methodNamed B.named
  have hlocks := B.notSynchronized
  subst hsz
  have hA : ∀ q : Nat, s.heap.size ≤ q → (fun q : Nat => s.heap.size ≤ q) q := fun _ h => h
  have hAlo : ∀ q : Nat, (fun q : Nat => s.heap.size ≤ q) q → lo ≤ q := fun q h => Nat.le_trans hlo h
  have hS : va_S (fun q : Nat => s.heap.size ≤ q) s.heap s.heap [] := va_S.rf
  have hl := lv_entry ([.ref h0, .int (nI i), .int p1]) (n := 4) (Nat.le_of_ble_eq_true rfl)
  rw [lg_entry_eq]
  generalize (lg_sl ([.ref h0, .int (nI i), .int p1]) ++ List.replicate (4 - (lg_sl ([.ref h0, .int (nI i), .int p1])).length) Slot.unset).toArray = ls at hl ⊢
  have hl : lv_has ls 4 [(0, .ref h0), (1, .int (nI i)), (2, .int p1)] := hl
  refine lv_iload_n hx hb dX5_chanceOf_0 rfl (lv_at hl 1 rfl) ?_
  refine lv_if_ne (tgt := 11) hx hb dX5_chanceOf_1 (by decide) (fun c_1 => ?_) (fun c_1 => ?_)
  · have c_1 : ¬ (i = 0) := fun h => c_1 ((nI_eq (a := i) (b := 0) (by omega) (by omega)).mpr h)
    refine lv_iload_n hx hb dX5_chanceOf_11 rfl (lv_at hl 2 rfl) ?_
    refine lv_if_eq (tgt := 31) hx hb dX5_chanceOf_12 (by decide) (fun c_2 => ?_) (fun c_2 => ?_)
    · refine lv_aload_n hx hb dX5_chanceOf_31 rfl (lv_at hl 0 rfl) ?_
      refine va_get (D := D) (ci := 5) (v := .ref h2) (C := RX5) (T := TX5) (N := 4) hx hb hts inX5 hown hK hP 0 rfl rfl 1 (by decide) (hts _ tw_150) (fun _ h9 => h9) rfl dX5_chanceOf_32 ?_
      refine lv_iload_n hx hb dX5_chanceOf_35 rfl (lv_at hl 1 rfl) ?_
      refine va_iald hx hb hK hP 2 1 rfl rfl (vp_in_nI (by omega) (by decide)) dX5_chanceOf_36 ?_
      refine lv_ti (y := (ff i)) (by rw [nI_clamp (by omega)]) ?_
      refine lv_aload_n hx hb dX5_chanceOf_37 rfl (lv_at hl 0 rfl) ?_
      refine va_get (D := D) (ci := 5) (v := .ref h1) (C := RX5) (T := TX5) (N := 4) hx hb hts inX5 hown hK hP 0 rfl rfl 0 (by decide) (hts _ tw_146) (fun _ h9 => h9) rfl dX5_chanceOf_38 ?_
      refine lv_iconst (v := 1) hx hb dX5_chanceOf_41 (by decide) ?_
      refine va_iald hx hb hK hP 1 1 rfl rfl (by unfold vp_in; decide) dX5_chanceOf_42 ?_
      refine lv_ti (y := (g 1)) (by rfl) ?_
      refine lv_isub hx hb dX5_chanceOf_43 ?_
      refine lv_topi (fun x_3 ex_3 => ?_)
      refine lv_istore_n (lv' := [(3, .int x_3), (0, .ref h0), (1, .int (nI i)), (2, .int p1)]) hx hb dX5_chanceOf_44 rfl hl (by decide) rfl (fun ls hl => ?_)
      refine lv_iconst (v := 0) hx hb dX5_chanceOf_45 (by decide) ?_
      refine lv_bipush (v := 100) hx hb dX5_chanceOf_46 (by decide) ?_
      refine lv_iload_n hx hb dX5_chanceOf_48 rfl (lv_at hl 0 rfl) ?_
      refine va_mmin hx hb (by rw [hml]; exact hl.1.symm) hown (hts _ tw_540) (hts _ tw_529) (hts _ tw_93) (hts _ tw_530) (Nat.le_of_ble_eq_true rfl) (Nat.le_of_ble_eq_true rfl) (Nat.le_of_ble_eq_true rfl) (Nat.le_of_ble_eq_true rfl) dX5_chanceOf_49 ?_
      refine lv_topi (fun x_4 ex_4 => ?_)
      refine va_mmax hx hb (by rw [hml]; exact hl.1.symm) hown (hts _ tw_509) (hts _ tw_510) (hts _ tw_93) (hts _ tw_511) (Nat.le_of_ble_eq_true rfl) (Nat.le_of_ble_eq_true rfl) (Nat.le_of_ble_eq_true rfl) (Nat.le_of_ble_eq_true rfl) dX5_chanceOf_52 ?_
      refine lv_topi (fun x_5 ex_5 => ?_)
      exact W.iret (v := x_5) hx hb hr (fun t ht hW => ⟨⟨x_5, (), rfl, trivial, trivial⟩, hS.F ht⟩) hS.2.2 dX5_chanceOf_55
    · refine lv_aload_n hx hb dX5_chanceOf_15 rfl (lv_at hl 0 rfl) ?_
      refine va_get (D := D) (ci := 5) (v := .ref h2) (C := RX5) (T := TX5) (N := 4) hx hb hts inX5 hown hK hP 0 rfl rfl 1 (by decide) (hts _ tw_150) (fun _ h9 => h9) rfl dX5_chanceOf_16 ?_
      refine lv_iload_n hx hb dX5_chanceOf_19 rfl (lv_at hl 1 rfl) ?_
      refine va_iald hx hb hK hP 2 1 rfl rfl (vp_in_nI (by omega) (by decide)) dX5_chanceOf_20 ?_
      refine lv_ti (y := (ff i)) (by rw [nI_clamp (by omega)]) ?_
      refine lv_aload_n hx hb dX5_chanceOf_21 rfl (lv_at hl 0 rfl) ?_
      refine va_get (D := D) (ci := 5) (v := .ref h1) (C := RX5) (T := TX5) (N := 4) hx hb hts inX5 hown hK hP 0 rfl rfl 0 (by decide) (hts _ tw_146) (fun _ h9 => h9) rfl dX5_chanceOf_22 ?_
      refine lv_iconst (v := 1) hx hb dX5_chanceOf_25 (by decide) ?_
      refine va_iald hx hb hK hP 1 1 rfl rfl (by unfold vp_in; decide) dX5_chanceOf_26 ?_
      refine lv_ti (y := (g 1)) (by rfl) ?_
      refine lv_iadd hx hb dX5_chanceOf_27 ?_
      refine lv_topi (fun x_6 ex_6 => ?_)
      refine lv_goto (tgt := 44) hx hb dX5_chanceOf_28 (by decide) ?_
      refine lv_istore_n (lv' := [(3, .int x_6), (0, .ref h0), (1, .int (nI i)), (2, .int p1)]) hx hb dX5_chanceOf_44 rfl hl (by decide) rfl (fun ls hl => ?_)
      refine lv_iconst (v := 0) hx hb dX5_chanceOf_45 (by decide) ?_
      refine lv_bipush (v := 100) hx hb dX5_chanceOf_46 (by decide) ?_
      refine lv_iload_n hx hb dX5_chanceOf_48 rfl (lv_at hl 0 rfl) ?_
      refine va_mmin hx hb (by rw [hml]; exact hl.1.symm) hown (hts _ tw_540) (hts _ tw_529) (hts _ tw_93) (hts _ tw_530) (Nat.le_of_ble_eq_true rfl) (Nat.le_of_ble_eq_true rfl) (Nat.le_of_ble_eq_true rfl) (Nat.le_of_ble_eq_true rfl) dX5_chanceOf_49 ?_
      refine lv_topi (fun x_7 ex_7 => ?_)
      refine va_mmax hx hb (by rw [hml]; exact hl.1.symm) hown (hts _ tw_509) (hts _ tw_510) (hts _ tw_93) (hts _ tw_511) (Nat.le_of_ble_eq_true rfl) (Nat.le_of_ble_eq_true rfl) (Nat.le_of_ble_eq_true rfl) (Nat.le_of_ble_eq_true rfl) dX5_chanceOf_52 ?_
      refine lv_topi (fun x_8 ex_8 => ?_)
      exact W.iret (v := x_8) hx hb hr (fun t ht hW => ⟨⟨x_8, (), rfl, trivial, trivial⟩, hS.F ht⟩) hS.2.2 dX5_chanceOf_55
  · have c_1 := (nI_eq (a := i) (b := 0) (by omega) (by omega)).mp c_1
    refine lv_aload_n hx hb dX5_chanceOf_4 rfl (lv_at hl 0 rfl) ?_
    refine va_get (D := D) (ci := 5) (v := .ref h2) (C := RX5) (T := TX5) (N := 4) hx hb hts inX5 hown hK hP 0 rfl rfl 1 (by decide) (hts _ tw_150) (fun _ h9 => h9) rfl dX5_chanceOf_5 ?_
    refine lv_iload_n hx hb dX5_chanceOf_8 rfl (lv_at hl 1 rfl) ?_
    refine va_iald hx hb hK hP 2 1 rfl rfl (vp_in_nI (by omega) (by decide)) dX5_chanceOf_9 ?_
    refine lv_ti (y := (ff i)) (by rw [nI_clamp (by omega)]) ?_
    exact W.iret (v := (ff i)) hx hb hr (fun t ht hW => ⟨⟨(ff i), (), rfl, trivial, trivial⟩, hS.F ht⟩) hS.2.2 dX5_chanceOf_10


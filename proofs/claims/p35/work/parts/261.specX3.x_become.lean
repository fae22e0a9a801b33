theorem dX5_become_0 : decode cX5_become 0 = .ok (.aload_n 1, 1) := by decide +kernel
theorem dX5_become_1 : decode cX5_become 1 = .ok (.getfield 9, 3) := by decide +kernel
theorem dX5_become_4 : decode cX5_become 4 = .ok (.iconst 0, 1) := by decide +kernel
theorem dX5_become_5 : decode cX5_become 5 = .ok (.aload_n 0, 1) := by decide +kernel
theorem dX5_become_6 : decode cX5_become 6 = .ok (.getfield 9, 3) := by decide +kernel
theorem dX5_become_9 : decode cX5_become 9 = .ok (.iconst 0, 1) := by decide +kernel
theorem dX5_become_10 : decode cX5_become 10 = .ok (.bipush 10, 2) := by decide +kernel
theorem dX5_become_12 : decode cX5_become 12 = .ok (.invokestatic 24, 3) := by decide +kernel
theorem dX5_become_15 : decode cX5_become 15 = .ok (.aload_n 1, 1) := by decide +kernel
theorem dX5_become_16 : decode cX5_become 16 = .ok (.getfield 15, 3) := by decide +kernel
theorem dX5_become_19 : decode cX5_become 19 = .ok (.iconst 0, 1) := by decide +kernel
theorem dX5_become_20 : decode cX5_become 20 = .ok (.aload_n 0, 1) := by decide +kernel
theorem dX5_become_21 : decode cX5_become 21 = .ok (.getfield 15, 3) := by decide +kernel
theorem dX5_become_24 : decode cX5_become 24 = .ok (.iconst 0, 1) := by decide +kernel
theorem dX5_become_25 : decode cX5_become 25 = .ok (.bipush 24, 2) := by decide +kernel
theorem dX5_become_27 : decode cX5_become 27 = .ok (.invokestatic 24, 3) := by decide +kernel
theorem dX5_become_30 : decode cX5_become 30 = .ok (.aload_n 1, 1) := by decide +kernel
theorem dX5_become_31 : decode cX5_become 31 = .ok (.getfield 18, 3) := by decide +kernel
theorem dX5_become_34 : decode cX5_become 34 = .ok (.iconst 0, 1) := by decide +kernel
theorem dX5_become_35 : decode cX5_become 35 = .ok (.aload_n 0, 1) := by decide +kernel
theorem dX5_become_36 : decode cX5_become 36 = .ok (.getfield 18, 3) := by decide +kernel
theorem dX5_become_39 : decode cX5_become 39 = .ok (.iconst 0, 1) := by decide +kernel
theorem dX5_become_40 : decode cX5_become 40 = .ok (.bipush 24, 2) := by decide +kernel
theorem dX5_become_42 : decode cX5_become 42 = .ok (.invokestatic 24, 3) := by decide +kernel
theorem dX5_become_45 : decode cX5_become 45 = .ok (.iconst 0, 1) := by decide +kernel
theorem dX5_become_46 : decode cX5_become 46 = .ok (.istore_n 2, 1) := by decide +kernel
theorem dX5_become_47 : decode cX5_become 47 = .ok (.iload_n 2, 1) := by decide +kernel
theorem dX5_become_48 : decode cX5_become 48 = .ok (.iconst 4, 1) := by decide +kernel
theorem dX5_become_49 : decode cX5_become 49 = .ok (.if_icmp .ge 38, 3) := by decide +kernel
theorem dX5_become_52 : decode cX5_become 52 = .ok (.aload_n 0, 1) := by decide +kernel
theorem dX5_become_53 : decode cX5_become 53 = .ok (.getfield 21, 3) := by decide +kernel
theorem dX5_become_56 : decode cX5_become 56 = .ok (.iload_n 2, 1) := by decide +kernel
theorem dX5_become_57 : decode cX5_become 57 = .ok (.aload_n 0, 1) := by decide +kernel
theorem dX5_become_58 : decode cX5_become 58 = .ok (.getfield 9, 3) := by decide +kernel
theorem dX5_become_61 : decode cX5_become 61 = .ok (.iconst 4, 1) := by decide +kernel
theorem dX5_become_62 : decode cX5_become 62 = .ok (.iaload, 1) := by decide +kernel
theorem dX5_become_63 : decode cX5_become 63 = .ok (.iconst 0, 1) := by decide +kernel
theorem dX5_become_64 : decode cX5_become 64 = .ok (.aload_n 0, 1) := by decide +kernel
theorem dX5_become_65 : decode cX5_become 65 = .ok (.iload_n 2, 1) := by decide +kernel
theorem dX5_become_66 : decode cX5_become 66 = .ok (.invokevirtual 30, 3) := by decide +kernel
theorem dX5_become_69 : decode cX5_become 69 = .ok (.aload_n 0, 1) := by decide +kernel
theorem dX5_become_70 : decode cX5_become 70 = .ok (.getfield 9, 3) := by decide +kernel
theorem dX5_become_73 : decode cX5_become 73 = .ok (.iconst 5, 1) := by decide +kernel
theorem dX5_become_74 : decode cX5_become 74 = .ok (.iaload, 1) := by decide +kernel
theorem dX5_become_75 : decode cX5_become 75 = .ok (.isub, 1) := by decide +kernel
theorem dX5_become_76 : decode cX5_become 76 = .ok (.invokestatic 34, 3) := by decide +kernel
theorem dX5_become_79 : decode cX5_become 79 = .ok (.imul, 1) := by decide +kernel
theorem dX5_become_80 : decode cX5_become 80 = .ok (.iastore, 1) := by decide +kernel
theorem dX5_become_81 : decode cX5_become 81 = .ok (.iinc 2 1, 3) := by decide +kernel
theorem dX5_become_84 : decode cX5_become 84 = .ok (.goto (-37), 3) := by decide +kernel
theorem dX5_become_87 : decode cX5_become 87 = .ok (.return_, 1) := by decide +kernel
set_option maxHeartbeats 4000000 in
set_option maxRecDepth 100000 in
theorem x_become (l : Launch) (D : va_G) (k : Nat → ClassId) (st : Nat → Nat) (lo : Nat) (h0 : Nat) (h1 : Nat) (h2 : Nat) (h3 : Nat) (h4 : Nat) (n : Nat) (see : Nat) (tm : Nat) (g : Nat → Int32) (ff : Nat → Int32) (fp : Nat → Int32) (fl : Nat → Int32) (d0 : Nat) (d1 : Nat) (d2 : Nat) (d3 : Nat) (d4 : Nat) (nq : Nat) (seeq : Nat) (tmq : Nat) (gq : Nat → Int32) (ffq : Nat → Int32) (fpq : Nat → Int32) (flq : Nat → Int32) (hn : nq ≤ 24) (hsee : seeq ≤ 2) (htm9 : tmq ≤ 3) : CWv l D k st lo yX5_become cX5_become 3 none ({ frames := 1, cells := 0, slots := 0, locals := 60 }) 0 0 [.ref h0, .ref d0] [(h0, .inr (5, [.ref h1, .ref h2, .ref h3, .ref h4])), (h1, .inl (k 1, 10, .inl (vv n see tm g))), (h2, .inl (k 1, 24, .inl ff)), (h3, .inl (k 1, 24, .inl fp)), (h4, .inl (k 1, 4, .inl fl)), (d0, .inr (5, [.ref d1, .ref d2, .ref d3, .ref d4])), (d1, .inl (k 1, 10, .inl (vv nq seeq tmq gq))), (d2, .inl (k 1, 24, .inl ffq)), (d3, .inl (k 1, 24, .inl fpq)), (d4, .inl (k 1, 4, .inl flq))] (fun (u : Nat × Nat × Nat × (Nat → Int32) × (Nat → Int32) × (Nat → Int32) × (Nat → Int32)) => match u with | (n_, see_, tm_, g_, ff_, fp_, fl_) => n_ ≤ 24 ∧ see_ ≤ 2 ∧ tm_ ≤ 3) (fun (u : Nat × Nat × Nat × (Nat → Int32) × (Nat → Int32) × (Nat → Int32) × (Nat → Int32)) => match u with | (n_, see_, tm_, g_, ff_, fp_, fl_) => [(h0, .inr (5, [.ref h1, .ref h2, .ref h3, .ref h4])), (h1, .inl (k 1, 10, .inl (vv n_ see_ tm_ g_))), (h2, .inl (k 1, 24, .inl ff_)), (h3, .inl (k 1, 24, .inl fp_)), (h4, .inl (k 1, 4, .inl fl_)), (d0, .inr (5, [.ref d1, .ref d2, .ref d3, .ref d4])), (d1, .inl (k 1, 10, .inl (vv nq seeq tmq gq))), (d2, .inl (k 1, 24, .inl ffq)), (d3, .inl (k 1, 24, .inl fpq)), (d4, .inl (k 1, 4, .inl flq))]) := by
  intro sz
  refine Met.ofW (cc := cX5_become) (maxL := 3) (ret := none) (by decide) rfl ?_
  intro p e s m args below meth c s₁ B hml hv
  obtain ⟨rfl, hsz, hlo, hP, hK, hDL, hZ⟩ := hv
  have hx := B.exec
  have hb := B.bytes
  have hr := B.returns
  have hts := WS_ts B.pre
  have hown : s.vm.findClass RX5 = some m.cls := findClass_of_methodNamed B.named
  have hlocks := B.notSynchronized
  subst hsz
  have hD := hDL.self (sz := s.heap.size)
  have hAlo := A_lo hDL hlo
  generalize hAe : va_A [(h0, .inr (5, [.ref h1, .ref h2, .ref h3, .ref h4])), (h1, .inl (k 1, 10, .inl (vv n see tm g))), (h2, .inl (k 1, 24, .inl ff)), (h3, .inl (k 1, 24, .inl fp)), (h4, .inl (k 1, 4, .inl fl)), (d0, .inr (5, [.ref d1, .ref d2, .ref d3, .ref d4])), (d1, .inl (k 1, 10, .inl (vv nq seeq tmq gq))), (d2, .inl (k 1, 24, .inl ffq)), (d3, .inl (k 1, 24, .inl fpq)), (d4, .inl (k 1, 4, .inl flq))] s.heap.size = A at hD hAlo ⊢
  have hA : ∀ q : Nat, s.heap.size ≤ q → A q := fun q h => by rw [← hAe]; exact Or.inr h
  have hS : va_S A s.heap s.heap [] := va_S.rf
  have hl := lv_entry ([.ref h0, .ref d0]) (n := 3) (Nat.le_of_ble_eq_true rfl)
  rw [lg_entry_eq]
  generalize (lg_sl ([.ref h0, .ref d0]) ++ List.replicate (3 - (lg_sl ([.ref h0, .ref d0])).length) Slot.unset).toArray = ls at hl ⊢
  have hl : lv_has ls 3 [(0, .ref h0), (1, .ref d0)] := hl
  refine lv_aload_n hx hb dX5_become_0 rfl (lv_at hl 1 rfl) ?_
  refine va_get (D := D) (ci := 5) (v := .ref d1) (C := RX5) (T := TX5) (N := 4) hx hb hts inX5 hown hK hP 5 rfl rfl 0 (by decide) (hts _ tw_146) (fun _ h9 => h9) rfl dX5_become_1 ?_
  refine lv_iconst (v := 0) hx hb dX5_become_4 (by decide) ?_
  refine lv_aload_n hx hb dX5_become_5 rfl (lv_at hl 0 rfl) ?_
  refine va_get (D := D) (ci := 5) (v := .ref h1) (C := RX5) (T := TX5) (N := 4) hx hb hts inX5 hown hK hP 0 rfl rfl 0 (by decide) (hts _ tw_146) (fun _ h9 => h9) rfl dX5_become_6 ?_
  refine lv_iconst (v := 0) hx hb dX5_become_9 (by decide) ?_
  refine lv_bipush (v := 10) hx hb dX5_become_10 (by decide) ?_
  refine va_copyi hx hb (by rw [hml]; exact hl.1.symm) hown (hts _ tw_364) (hts _ tw_366) (hts _ tw_365) (hts _ tw_88) hK hP hD hS 6 1 1 1 rfl rfl rfl rfl rfl (by decide) (by decide) (by decide) (by decide) (by decide) (fun _ _ => rfl) (Nat.le_of_ble_eq_true rfl) (Nat.le_of_ble_eq_true rfl) dX5_become_12 (fun H locs hP hD hS => ?_)
  replace hP : va_P D classes [(h0, .inr (5, [.ref h1, .ref h2, .ref h3, .ref h4])), (h1, .inl (k 1, 10, .inl (va_cpy (vv nq seeq tmq gq) (vv n see tm g) 0 0 10))), (h2, .inl (k 1, 24, .inl ff)), (h3, .inl (k 1, 24, .inl fp)), (h4, .inl (k 1, 4, .inl fl)), (d0, .inr (5, [.ref d1, .ref d2, .ref d3, .ref d4])), (d1, .inl (k 1, 10, .inl (vv nq seeq tmq gq))), (d2, .inl (k 1, 24, .inl ffq)), (d3, .inl (k 1, 24, .inl fpq)), (d4, .inl (k 1, 4, .inl flq))] H := hP
  replace hD : va_D A [(h0, .inr (5, [.ref h1, .ref h2, .ref h3, .ref h4])), (h1, .inl (k 1, 10, .inl (va_cpy (vv nq seeq tmq gq) (vv n see tm g) 0 0 10))), (h2, .inl (k 1, 24, .inl ff)), (h3, .inl (k 1, 24, .inl fp)), (h4, .inl (k 1, 4, .inl fl)), (d0, .inr (5, [.ref d1, .ref d2, .ref d3, .ref d4])), (d1, .inl (k 1, 10, .inl (vv nq seeq tmq gq))), (d2, .inl (k 1, 24, .inl ffq)), (d3, .inl (k 1, 24, .inl fpq)), (d4, .inl (k 1, 4, .inl flq))] := hD
  rw [show va_cpy (vv nq seeq tmq gq) (vv n see tm g) 0 0 10 = vv nq seeq tmq (va_cpy gq g 0 0 10) from vv_cpy _ _ _ _ _ _ _ _] at hP hD
  generalize va_cpy gq g 0 0 10 = gg_1 at hP hD
  replace hP : va_P D classes [(h0, .inr (5, [.ref h1, .ref h2, .ref h3, .ref h4])), (h1, .inl (k 1, 10, .inl (vv nq seeq tmq gg_1))), (h2, .inl (k 1, 24, .inl ff)), (h3, .inl (k 1, 24, .inl fp)), (h4, .inl (k 1, 4, .inl fl)), (d0, .inr (5, [.ref d1, .ref d2, .ref d3, .ref d4])), (d1, .inl (k 1, 10, .inl (vv nq seeq tmq gq))), (d2, .inl (k 1, 24, .inl ffq)), (d3, .inl (k 1, 24, .inl fpq)), (d4, .inl (k 1, 4, .inl flq))] H := hP
  replace hD : va_D A [(h0, .inr (5, [.ref h1, .ref h2, .ref h3, .ref h4])), (h1, .inl (k 1, 10, .inl (vv nq seeq tmq gg_1))), (h2, .inl (k 1, 24, .inl ff)), (h3, .inl (k 1, 24, .inl fp)), (h4, .inl (k 1, 4, .inl fl)), (d0, .inr (5, [.ref d1, .ref d2, .ref d3, .ref d4])), (d1, .inl (k 1, 10, .inl (vv nq seeq tmq gq))), (d2, .inl (k 1, 24, .inl ffq)), (d3, .inl (k 1, 24, .inl fpq)), (d4, .inl (k 1, 4, .inl flq))] := hD
  refine lv_aload_n hx hb dX5_become_15 rfl (lv_at hl 1 rfl) ?_
  refine va_get (D := D) (ci := 5) (v := .ref d2) (C := RX5) (T := TX5) (N := 4) hx hb hts inX5 hown hK hP 5 rfl rfl 1 (by decide) (hts _ tw_150) (fun _ h9 => h9) rfl dX5_become_16 ?_
  refine lv_iconst (v := 0) hx hb dX5_become_19 (by decide) ?_
  refine lv_aload_n hx hb dX5_become_20 rfl (lv_at hl 0 rfl) ?_
  refine va_get (D := D) (ci := 5) (v := .ref h2) (C := RX5) (T := TX5) (N := 4) hx hb hts inX5 hown hK hP 0 rfl rfl 1 (by decide) (hts _ tw_150) (fun _ h9 => h9) rfl dX5_become_21 ?_
  refine lv_iconst (v := 0) hx hb dX5_become_24 (by decide) ?_
  refine lv_bipush (v := 24) hx hb dX5_become_25 (by decide) ?_
  refine va_copyi hx hb (by rw [hml]; exact hl.1.symm) hown (hts _ tw_364) (hts _ tw_366) (hts _ tw_365) (hts _ tw_88) hK hP hD hS 7 2 1 1 rfl rfl rfl rfl rfl (by decide) (by decide) (by decide) (by decide) (by decide) (fun _ _ => rfl) (Nat.le_of_ble_eq_true rfl) (Nat.le_of_ble_eq_true rfl) dX5_become_27 (fun H locs hP hD hS => ?_)
  replace hP : va_P D classes [(h0, .inr (5, [.ref h1, .ref h2, .ref h3, .ref h4])), (h1, .inl (k 1, 10, .inl (vv nq seeq tmq gg_1))), (h2, .inl (k 1, 24, .inl (va_cpy ffq ff 0 0 24))), (h3, .inl (k 1, 24, .inl fp)), (h4, .inl (k 1, 4, .inl fl)), (d0, .inr (5, [.ref d1, .ref d2, .ref d3, .ref d4])), (d1, .inl (k 1, 10, .inl (vv nq seeq tmq gq))), (d2, .inl (k 1, 24, .inl ffq)), (d3, .inl (k 1, 24, .inl fpq)), (d4, .inl (k 1, 4, .inl flq))] H := hP
  replace hD : va_D A [(h0, .inr (5, [.ref h1, .ref h2, .ref h3, .ref h4])), (h1, .inl (k 1, 10, .inl (vv nq seeq tmq gg_1))), (h2, .inl (k 1, 24, .inl (va_cpy ffq ff 0 0 24))), (h3, .inl (k 1, 24, .inl fp)), (h4, .inl (k 1, 4, .inl fl)), (d0, .inr (5, [.ref d1, .ref d2, .ref d3, .ref d4])), (d1, .inl (k 1, 10, .inl (vv nq seeq tmq gq))), (d2, .inl (k 1, 24, .inl ffq)), (d3, .inl (k 1, 24, .inl fpq)), (d4, .inl (k 1, 4, .inl flq))] := hD
  generalize (va_cpy ffq ff 0 0 24) = f_4 at hP hD
  refine lv_aload_n hx hb dX5_become_30 rfl (lv_at hl 1 rfl) ?_
  refine va_get (D := D) (ci := 5) (v := .ref d3) (C := RX5) (T := TX5) (N := 4) hx hb hts inX5 hown hK hP 5 rfl rfl 2 (by decide) (hts _ tw_152) (fun _ h9 => h9) rfl dX5_become_31 ?_
  refine lv_iconst (v := 0) hx hb dX5_become_34 (by decide) ?_
  refine lv_aload_n hx hb dX5_become_35 rfl (lv_at hl 0 rfl) ?_
  refine va_get (D := D) (ci := 5) (v := .ref h3) (C := RX5) (T := TX5) (N := 4) hx hb hts inX5 hown hK hP 0 rfl rfl 2 (by decide) (hts _ tw_152) (fun _ h9 => h9) rfl dX5_become_36 ?_
  refine lv_iconst (v := 0) hx hb dX5_become_39 (by decide) ?_
  refine lv_bipush (v := 24) hx hb dX5_become_40 (by decide) ?_
  refine va_copyi hx hb (by rw [hml]; exact hl.1.symm) hown (hts _ tw_364) (hts _ tw_366) (hts _ tw_365) (hts _ tw_88) hK hP hD hS 8 3 1 1 rfl rfl rfl rfl rfl (by decide) (by decide) (by decide) (by decide) (by decide) (fun _ _ => rfl) (Nat.le_of_ble_eq_true rfl) (Nat.le_of_ble_eq_true rfl) dX5_become_42 (fun H locs hP hD hS => ?_)
  replace hP : va_P D classes [(h0, .inr (5, [.ref h1, .ref h2, .ref h3, .ref h4])), (h1, .inl (k 1, 10, .inl (vv nq seeq tmq gg_1))), (h2, .inl (k 1, 24, .inl f_4)), (h3, .inl (k 1, 24, .inl (va_cpy fpq fp 0 0 24))), (h4, .inl (k 1, 4, .inl fl)), (d0, .inr (5, [.ref d1, .ref d2, .ref d3, .ref d4])), (d1, .inl (k 1, 10, .inl (vv nq seeq tmq gq))), (d2, .inl (k 1, 24, .inl ffq)), (d3, .inl (k 1, 24, .inl fpq)), (d4, .inl (k 1, 4, .inl flq))] H := hP
  replace hD : va_D A [(h0, .inr (5, [.ref h1, .ref h2, .ref h3, .ref h4])), (h1, .inl (k 1, 10, .inl (vv nq seeq tmq gg_1))), (h2, .inl (k 1, 24, .inl f_4)), (h3, .inl (k 1, 24, .inl (va_cpy fpq fp 0 0 24))), (h4, .inl (k 1, 4, .inl fl)), (d0, .inr (5, [.ref d1, .ref d2, .ref d3, .ref d4])), (d1, .inl (k 1, 10, .inl (vv nq seeq tmq gq))), (d2, .inl (k 1, 24, .inl ffq)), (d3, .inl (k 1, 24, .inl fpq)), (d4, .inl (k 1, 4, .inl flq))] := hD
  generalize (va_cpy fpq fp 0 0 24) = f_6 at hP hD
  refine lv_iconst (v := 0) hx hb dX5_become_45 (by decide) ?_
  refine lv_istore_n (lv' := [(2, .int 0), (0, .ref h0), (1, .ref d0)]) hx hb dX5_become_46 rfl hl (by decide) rfl (fun ls hl => ?_)
  refine W_loop (σ := Nat × (Nat → Int32)) (fun (n_ : Nat) (x_ : Nat × (Nat → Int32)) (H : Heap) (locs : List Loc) (ls : Array Slot) => match x_ with | (rn2_7, fl2_7) => n_ = 4 - rn2_7 ∧ (rn2_7 ≤ 4) ∧ va_P D classes [(h0, .inr (5, [.ref h1, .ref h2, .ref h3, .ref h4])), (h1, .inl (k 1, 10, .inl (vv nq seeq tmq gg_1))), (h2, .inl (k 1, 24, .inl f_4)), (h3, .inl (k 1, 24, .inl f_6)), (h4, .inl (k 1, 4, .inl fl2_7)), (d0, .inr (5, [.ref d1, .ref d2, .ref d3, .ref d4])), (d1, .inl (k 1, 10, .inl (vv nq seeq tmq gq))), (d2, .inl (k 1, 24, .inl ffq)), (d3, .inl (k 1, 24, .inl fpq)), (d4, .inl (k 1, 4, .inl flq))] H ∧ va_D A [(h0, .inr (5, [.ref h1, .ref h2, .ref h3, .ref h4])), (h1, .inl (k 1, 10, .inl (vv nq seeq tmq gg_1))), (h2, .inl (k 1, 24, .inl f_4)), (h3, .inl (k 1, 24, .inl f_6)), (h4, .inl (k 1, 4, .inl fl2_7)), (d0, .inr (5, [.ref d1, .ref d2, .ref d3, .ref d4])), (d1, .inl (k 1, 10, .inl (vv nq seeq tmq gq))), (d2, .inl (k 1, 24, .inl ffq)), (d3, .inl (k 1, 24, .inl fpq)), (d4, .inl (k 1, 4, .inl flq))] ∧ va_S A s.heap H locs ∧ lv_has ls 3 [(2, .int (nI rn2_7)), (0, .ref h0), (1, .ref d0)]) (fun n_7 x_7 H locs ls hI ih_7 => ?_) _ (0, fl) ⟨rfl, (by omega), hP, hD, hS, (lv_sub hl [0, 1, 2] rfl)⟩
  obtain ⟨rn2_7, fl2_7⟩ := x_7
  obtain ⟨hm_7, hv_7, hP, hD, hS, hl⟩ := hI
  subst hm_7
  refine lv_iload_n hx hb dX5_become_47 rfl (lv_at hl 0 rfl) ?_
  refine lv_iconst (v := 4) hx hb dX5_become_48 (by decide) ?_
  refine lv_icmp_ge (tgt := 87) hx hb dX5_become_49 (by decide) (fun c_8 => ?_) (fun c_8 => ?_)
  · have c_8 := (nI_leI (a := 4) (b := rn2_7) (by omega) (by omega)).mp c_8
    have hP9 := hP.sub (ws' := [(h0, .inr (5, [.ref h1, .ref h2, .ref h3, .ref h4])), (h1, .inl (k 1, 10, .inl (vv nq seeq tmq gg_1))), (h2, .inl (k 1, 24, .inl f_4)), (h3, .inl (k 1, 24, .inl f_6)), (h4, .inl (k 1, 4, .inl fl2_7)), (d0, .inr (5, [.ref d1, .ref d2, .ref d3, .ref d4])), (d1, .inl (k 1, 10, .inl (vv nq seeq tmq gq))), (d2, .inl (k 1, 24, .inl ffq)), (d3, .inl (k 1, 24, .inl fpq)), (d4, .inl (k 1, 4, .inl flq))]) [0, 1, 2, 3, 4, 5, 6, 7, 8, 9] rfl
    have hD9 := hD.sub (ws' := [(h0, .inr (5, [.ref h1, .ref h2, .ref h3, .ref h4])), (h1, .inl (k 1, 10, .inl (vv nq seeq tmq gg_1))), (h2, .inl (k 1, 24, .inl f_4)), (h3, .inl (k 1, 24, .inl f_6)), (h4, .inl (k 1, 4, .inl fl2_7)), (d0, .inr (5, [.ref d1, .ref d2, .ref d3, .ref d4])), (d1, .inl (k 1, 10, .inl (vv nq seeq tmq gq))), (d2, .inl (k 1, 24, .inl ffq)), (d3, .inl (k 1, 24, .inl fpq)), (d4, .inl (k 1, 4, .inl flq))]) [0, 1, 2, 3, 4, 5, 6, 7, 8, 9] (by decide) rfl
    exact W.vret hx hb hr (fun t ht hW => ⟨⟨(nq, seeq, tmq, gg_1, f_4, f_6, fl2_7), rfl, ⟨by omega, by omega, by omega⟩, by rw [ht]; exact hP9, hD9⟩, hS.F ht⟩) hS.2.2 dX5_become_87
  · have c_8 : ¬ (4 ≤ rn2_7) := fun h => c_8 ((nI_leI (a := 4) (b := rn2_7) (by omega) (by omega)).mpr h)
    refine lv_aload_n hx hb dX5_become_52 rfl (lv_at hl 1 rfl) ?_
    refine va_get (D := D) (ci := 5) (v := .ref h4) (C := RX5) (T := TX5) (N := 4) hx hb hts inX5 hown hK hP 0 rfl rfl 3 (by decide) (hts _ tw_154) (fun _ h9 => h9) rfl dX5_become_53 ?_
    refine lv_iload_n hx hb dX5_become_56 rfl (lv_at hl 0 rfl) ?_
    refine lv_aload_n hx hb dX5_become_57 rfl (lv_at hl 1 rfl) ?_
    refine va_get (D := D) (ci := 5) (v := .ref h1) (C := RX5) (T := TX5) (N := 4) hx hb hts inX5 hown hK hP 0 rfl rfl 0 (by decide) (hts _ tw_146) (fun _ h9 => h9) rfl dX5_become_58 ?_
    refine lv_iconst (v := 4) hx hb dX5_become_61 (by decide) ?_
    refine va_iald hx hb hK hP 1 1 rfl rfl (by unfold vp_in; decide) dX5_become_62 ?_
    refine lv_ti (y := (gg_1 4)) (by rfl) ?_
    refine lv_iconst (v := 0) hx hb dX5_become_63 (by decide) ?_
    refine lv_aload_n hx hb dX5_become_64 rfl (lv_at hl 1 rfl) ?_
    refine lv_iload_n hx hb dX5_become_65 rfl (lv_at hl 0 rfl) ?_
    refine ro_i (D := D) (va_runV (As := [.int (nI rn2_7)]) (rest := [.int 0, .int (gg_1 4), .int (nI rn2_7), .ref h4]) ⟨hx, hb, hml, hown, hts⟩ ((x_arrivalOf l D k st lo h0 h1 h2 h3 h4 nq seeq tmq gg_1 rn2_7) H.size) (cwV 1 hts (gV tw_505 tw_507 tw_3 tw_81 tw_508) rfl rfl rfl (by decide +kernel) ⟨Nat.le_of_ble_eq_true rfl, Nat.le_of_ble_eq_true rfl⟩) (pV hS hAlo hlo hP hK (va_Dlo hD hAlo) hZ [0, 1] (by decide) rfl (ci := 5) (q0 := 0) rfl rfl) rfl rfl hl.1 rfl (lv_room (Nat.le_of_ble_eq_true rfl)) dX5_become_66 ⟨Nat.le_of_ble_eq_true rfl, Nat.le_of_ble_eq_true rfl⟩) hS hA hP (fun r_9 H locs hw_9 hP hS => ?_)
    try dsimp only at hw_9
    refine lv_aload_n hx hb dX5_become_69 rfl (lv_at hl 1 rfl) ?_
    refine va_get (D := D) (ci := 5) (v := .ref h1) (C := RX5) (T := TX5) (N := 4) hx hb hts inX5 hown hK hP 0 rfl rfl 0 (by decide) (hts _ tw_146) (fun _ h9 => h9) rfl dX5_become_70 ?_
    refine lv_iconst (v := 5) hx hb dX5_become_73 (by decide) ?_
    refine va_iald hx hb hK hP 1 1 rfl rfl (by unfold vp_in; decide) dX5_become_74 ?_
    refine lv_ti (y := (gg_1 5)) (by rfl) ?_
    refine lv_isub hx hb dX5_become_75 ?_
    refine lv_topi (fun x_10 ex_10 => ?_)
    refine va_mmax hx hb (by rw [hml]; exact hl.1.symm) hown (hts _ tw_509) (hts _ tw_510) (hts _ tw_93) (hts _ tw_511) (Nat.le_of_ble_eq_true rfl) (Nat.le_of_ble_eq_true rfl) (Nat.le_of_ble_eq_true rfl) (Nat.le_of_ble_eq_true rfl) dX5_become_76 ?_
    refine lv_topi (fun x_11 ex_11 => ?_)
    refine lv_imul hx hb dX5_become_79 ?_
    refine lv_topi (fun x_12 ex_12 => ?_)
    refine va_iast hx hb hK hP hD hS 4 1 rfl rfl (vp_in_nI (by omega) (by decide)) dX5_become_80 (fun H locs hP hD hS => ?_)
    replace hP : va_P D classes [(h0, .inr (5, [.ref h1, .ref h2, .ref h3, .ref h4])), (h1, .inl (k 1, 10, .inl (vv nq seeq tmq gg_1))), (h2, .inl (k 1, 24, .inl f_4)), (h3, .inl (k 1, 24, .inl f_6)), (h4, .inl (k 1, 4, .inl (upd fl2_7 (Int32.toNatClampNeg (nI rn2_7)) x_12))), (d0, .inr (5, [.ref d1, .ref d2, .ref d3, .ref d4])), (d1, .inl (k 1, 10, .inl (vv nq seeq tmq gq))), (d2, .inl (k 1, 24, .inl ffq)), (d3, .inl (k 1, 24, .inl fpq)), (d4, .inl (k 1, 4, .inl flq))] H := hP
    replace hD : va_D A [(h0, .inr (5, [.ref h1, .ref h2, .ref h3, .ref h4])), (h1, .inl (k 1, 10, .inl (vv nq seeq tmq gg_1))), (h2, .inl (k 1, 24, .inl f_4)), (h3, .inl (k 1, 24, .inl f_6)), (h4, .inl (k 1, 4, .inl (upd fl2_7 (Int32.toNatClampNeg (nI rn2_7)) x_12))), (d0, .inr (5, [.ref d1, .ref d2, .ref d3, .ref d4])), (d1, .inl (k 1, 10, .inl (vv nq seeq tmq gq))), (d2, .inl (k 1, 24, .inl ffq)), (d3, .inl (k 1, 24, .inl fpq)), (d4, .inl (k 1, 4, .inl flq))] := hD
    generalize (upd fl2_7 (Int32.toNatClampNeg (nI rn2_7)) x_12) = f_13 at hP hD
    refine lv_iinc (v := (nI (rn2_7 + 1))) (lv' := [(2, .int (nI (rn2_7 + 1))), (0, .ref h0), (1, .ref d0)]) hx hb dX5_become_81 hl (k := 0) rfl (nI_add rn2_7 1) (by decide) rfl (fun ls hl => ?_)
    refine lv_goto (tgt := 47) hx hb dX5_become_84 (by decide) ?_
    exact ih_7 _ (rn2_7 + 1, f_13) _ _ _ (by omega) ⟨rfl, (by omega), hP, hD, hS, (lv_sub hl [0, 1, 2] rfl)⟩


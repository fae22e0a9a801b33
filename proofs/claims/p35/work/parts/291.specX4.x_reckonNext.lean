theorem dX0_reckonNext_0 : decode cX0_reckonNext 0 = .ok (.aload_n 0, 1) := by decide +kernel
theorem dX0_reckonNext_1 : decode cX0_reckonNext 1 = .ok (.getfield 24, 3) := by decide +kernel
theorem dX0_reckonNext_4 : decode cX0_reckonNext 4 = .ok (.getfield 28, 3) := by decide +kernel
theorem dX0_reckonNext_7 : decode cX0_reckonNext 7 = .ok (.bipush 6, 2) := by decide +kernel
theorem dX0_reckonNext_9 : decode cX0_reckonNext 9 = .ok (.iaload, 1) := by decide +kernel
theorem dX0_reckonNext_10 : decode cX0_reckonNext 10 = .ok (.istore 4, 2) := by decide +kernel
theorem dX0_reckonNext_12 : decode cX0_reckonNext 12 = .ok (.iload_n 2, 1) := by decide +kernel
theorem dX0_reckonNext_13 : decode cX0_reckonNext 13 = .ok (.iconst 1, 1) := by decide +kernel
theorem dX0_reckonNext_14 : decode cX0_reckonNext 14 = .ok (.iadd, 1) := by decide +kernel
theorem dX0_reckonNext_15 : decode cX0_reckonNext 15 = .ok (.istore 5, 2) := by decide +kernel
theorem dX0_reckonNext_17 : decode cX0_reckonNext 17 = .ok (.iload_n 3, 1) := by decide +kernel
theorem dX0_reckonNext_18 : decode cX0_reckonNext 18 = .ok (.iconst 1, 1) := by decide +kernel
theorem dX0_reckonNext_19 : decode cX0_reckonNext 19 = .ok (.ishr, 1) := by decide +kernel
theorem dX0_reckonNext_20 : decode cX0_reckonNext 20 = .ok (.istore 6, 2) := by decide +kernel
theorem dX0_reckonNext_22 : decode cX0_reckonNext 22 = .ok (.iload 5, 2) := by decide +kernel
theorem dX0_reckonNext_24 : decode cX0_reckonNext 24 = .ok (.iload 4, 2) := by decide +kernel
theorem dX0_reckonNext_26 : decode cX0_reckonNext 26 = .ok (.iadd, 1) := by decide +kernel
theorem dX0_reckonNext_27 : decode cX0_reckonNext 27 = .ok (.aload_n 0, 1) := by decide +kernel
theorem dX0_reckonNext_28 : decode cX0_reckonNext 28 = .ok (.getfield 24, 3) := by decide +kernel
theorem dX0_reckonNext_31 : decode cX0_reckonNext 31 = .ok (.invokevirtual 37, 3) := by decide +kernel
theorem dX0_reckonNext_34 : decode cX0_reckonNext 34 = .ok (.if_icmp .lt 13, 3) := by decide +kernel
theorem dX0_reckonNext_37 : decode cX0_reckonNext 37 = .ok (.aload_n 0, 1) := by decide +kernel
theorem dX0_reckonNext_38 : decode cX0_reckonNext 38 = .ok (.iload_n 1, 1) := by decide +kernel
theorem dX0_reckonNext_39 : decode cX0_reckonNext 39 = .ok (.iload 5, 2) := by decide +kernel
theorem dX0_reckonNext_41 : decode cX0_reckonNext 41 = .ok (.iload 6, 2) := by decide +kernel
theorem dX0_reckonNext_43 : decode cX0_reckonNext 43 = .ok (.invokevirtual 73, 3) := by decide +kernel
theorem dX0_reckonNext_46 : decode cX0_reckonNext 46 = .ok (.ireturn, 1) := by decide +kernel
theorem dX0_reckonNext_47 : decode cX0_reckonNext 47 = .ok (.aload_n 0, 1) := by decide +kernel
theorem dX0_reckonNext_48 : decode cX0_reckonNext 48 = .ok (.getfield 24, 3) := by decide +kernel
theorem dX0_reckonNext_51 : decode cX0_reckonNext 51 = .ok (.iload 5, 2) := by decide +kernel
theorem dX0_reckonNext_53 : decode cX0_reckonNext 53 = .ok (.iload 4, 2) := by decide +kernel
theorem dX0_reckonNext_55 : decode cX0_reckonNext 55 = .ok (.iadd, 1) := by decide +kernel
theorem dX0_reckonNext_56 : decode cX0_reckonNext 56 = .ok (.iload_n 3, 1) := by decide +kernel
theorem dX0_reckonNext_57 : decode cX0_reckonNext 57 = .ok (.iload 4, 2) := by decide +kernel
theorem dX0_reckonNext_59 : decode cX0_reckonNext 59 = .ok (.ishr, 1) := by decide +kernel
theorem dX0_reckonNext_60 : decode cX0_reckonNext 60 = .ok (.iconst 1, 1) := by decide +kernel
theorem dX0_reckonNext_61 : decode cX0_reckonNext 61 = .ok (.iand, 1) := by decide +kernel
theorem dX0_reckonNext_62 : decode cX0_reckonNext 62 = .ok (.ifCond .eq 7, 3) := by decide +kernel
theorem dX0_reckonNext_65 : decode cX0_reckonNext 65 = .ok (.iconst 1, 1) := by decide +kernel
theorem dX0_reckonNext_66 : decode cX0_reckonNext 66 = .ok (.goto 4, 3) := by decide +kernel
theorem dX0_reckonNext_69 : decode cX0_reckonNext 69 = .ok (.iconst 0, 1) := by decide +kernel
theorem dX0_reckonNext_70 : decode cX0_reckonNext 70 = .ok (.invokevirtual 76, 3) := by decide +kernel
theorem dX0_reckonNext_73 : decode cX0_reckonNext 73 = .ok (.istore 7, 2) := by decide +kernel
theorem dX0_reckonNext_75 : decode cX0_reckonNext 75 = .ok (.iload 7, 2) := by decide +kernel
theorem dX0_reckonNext_77 : decode cX0_reckonNext 77 = .ok (.aload_n 0, 1) := by decide +kernel
theorem dX0_reckonNext_78 : decode cX0_reckonNext 78 = .ok (.iload_n 1, 1) := by decide +kernel
theorem dX0_reckonNext_79 : decode cX0_reckonNext 79 = .ok (.iload 5, 2) := by decide +kernel
theorem dX0_reckonNext_81 : decode cX0_reckonNext 81 = .ok (.iload 6, 2) := by decide +kernel
theorem dX0_reckonNext_83 : decode cX0_reckonNext 83 = .ok (.iconst 1, 1) := by decide +kernel
theorem dX0_reckonNext_84 : decode cX0_reckonNext 84 = .ok (.iload 4, 2) := by decide +kernel
theorem dX0_reckonNext_86 : decode cX0_reckonNext 86 = .ok (.ishl, 1) := by decide +kernel
theorem dX0_reckonNext_87 : decode cX0_reckonNext 87 = .ok (.ior, 1) := by decide +kernel
theorem dX0_reckonNext_88 : decode cX0_reckonNext 88 = .ok (.invokevirtual 73, 3) := by decide +kernel
theorem dX0_reckonNext_91 : decode cX0_reckonNext 91 = .ok (.aload_n 0, 1) := by decide +kernel
theorem dX0_reckonNext_92 : decode cX0_reckonNext 92 = .ok (.iload_n 1, 1) := by decide +kernel
theorem dX0_reckonNext_93 : decode cX0_reckonNext 93 = .ok (.iload 5, 2) := by decide +kernel
theorem dX0_reckonNext_95 : decode cX0_reckonNext 95 = .ok (.iload 6, 2) := by decide +kernel
theorem dX0_reckonNext_97 : decode cX0_reckonNext 97 = .ok (.invokevirtual 73, 3) := by decide +kernel
theorem dX0_reckonNext_100 : decode cX0_reckonNext 100 = .ok (.invokestatic 80, 3) := by decide +kernel
theorem dX0_reckonNext_103 : decode cX0_reckonNext 103 = .ok (.ireturn, 1) := by decide +kernel
set_option maxHeartbeats 4000000 in
set_option maxRecDepth 100000 in
theorem x_reckonNext (l : Launch) (D : va_G) (k : Nat → ClassId) (st : Nat → Nat) (lo : Nat) (h0 : Nat) (h1 : Nat) (h2 : Nat) (h3 : Nat) (h4 : Nat) (n : Nat) (see : Nat) (tm : Nat) (g : Nat → Int32) (ff : Nat → Int32) (fp : Nat → Int32) (fl : Nat → Int32) (w0 : Nat) (w1 : Nat) (w2 : Nat) (w3 : Nat) (w4 : Nat) (on : Nat → Int32) (rn : Nat) (i : Nat) (gg : Nat) (hn : n ≤ 24) (hsee : see ≤ 2) (hrn : rn ≤ 3) (hi : i + 1 < n) (hg : gg < 8) : CRi l D k st lo yX0_reckonNext cX0_reckonNext 8 (some .int) ({ frames := 3, cells := 0, slots := 0, locals := 84 }) [.ref w0, .int (nI rn), .int (nI i), .int (nI gg)] [(h0, .inr (5, [.ref h1, .ref h2, .ref h3, .ref h4])), (h1, .inl (k 1, 10, .inl (vv n see tm g))), (h2, .inl (k 1, 24, .inl ff)), (h3, .inl (k 1, 24, .inl fp)), (h4, .inl (k 1, 4, .inl fl)), (w0, .inr (0, [.ref h0, .ref w1, .ref w2, .ref w3, .ref w4])), (w1, .inl (k 1, 768, .inl on))] (fun _ => True) := by
  intro sz
  refine Met.ofW (cc := cX0_reckonNext) (maxL := 8) (ret := (some .int)) (by decide) rfl ?_
  intro p e s m args below meth c s₁ B hml hv
  obtain ⟨rfl, hsz, hlo, hP, hK, hDL, hZ⟩ := hv
  have hx := B.exec
  have hb := B.bytes
  have hr := B.returns
  have hts := WS_ts B.pre
  have hown : s.vm.findClass RX0 = some m.cls := findClass_of_methodNamed B.named
  have hlocks := B.notSynchronized
  subst hsz
  have hA : ∀ q : Nat, s.heap.size ≤ q → (fun q : Nat => s.heap.size ≤ q) q := fun _ h => h
  have hAlo : ∀ q : Nat, (fun q : Nat => s.heap.size ≤ q) q → lo ≤ q := fun q h => Nat.le_trans hlo h
  have hS : va_S (fun q : Nat => s.heap.size ≤ q) s.heap s.heap [] := va_S.rf
  have hl := lv_entry ([.ref w0, .int (nI rn), .int (nI i), .int (nI gg)]) (n := 8) (Nat.le_of_ble_eq_true rfl)
  rw [lg_entry_eq]
  generalize (lg_sl ([.ref w0, .int (nI rn), .int (nI i), .int (nI gg)]) ++ List.replicate (8 - (lg_sl ([.ref w0, .int (nI rn), .int (nI i), .int (nI gg)])).length) Slot.unset).toArray = ls at hl ⊢
  have hl : lv_has ls 8 [(0, .ref w0), (1, .int (nI rn)), (2, .int (nI i)), (3, .int (nI gg))] := hl
  refine lv_aload_n hx hb dX0_reckonNext_0 rfl (lv_at hl 0 rfl) ?_
  refine va_get (D := D) (ci := 0) (v := .ref h0) (C := RX0) (T := TX0) (N := 5) hx hb hts inX0 hown hK hP 5 rfl rfl 0 (by decide) (hts _ tw_266) (fun _ h9 => h9) rfl dX0_reckonNext_1 ?_
  refine va_get (D := D) (ci := 5) (v := .ref h1) (C := RX5) (T := TX5) (N := 4) hx hb hts inX5 hown hK hP 0 rfl rfl 0 (by decide) (hts _ tw_147) (fun _ h9 => h9) rfl dX0_reckonNext_4 ?_
  refine lv_bipush (v := 6) hx hb dX0_reckonNext_7 (by decide) ?_
  refine va_iald hx hb hK hP 1 1 rfl rfl (by unfold vp_in; decide) dX0_reckonNext_9 ?_
  refine lv_ti (y := (nI see)) (by rfl) ?_
  refine lv_istore (lv' := [(4, .int (nI see)), (0, .ref w0), (1, .int (nI rn)), (2, .int (nI i)), (3, .int (nI gg))]) hx hb dX0_reckonNext_10 hl (by decide) rfl (fun ls hl => ?_)
  refine lv_iload_n hx hb dX0_reckonNext_12 rfl (lv_at hl 3 rfl) ?_
  refine lv_iconst (v := 1) hx hb dX0_reckonNext_13 (by decide) ?_
  refine lv_iadd hx hb dX0_reckonNext_14 ?_
  refine lv_ti (y := (nI (i + 1))) (nI_add i 1) ?_
  refine lv_istore (lv' := [(5, .int (nI (i + 1))), (4, .int (nI see)), (0, .ref w0), (1, .int (nI rn)), (2, .int (nI i)), (3, .int (nI gg))]) hx hb dX0_reckonNext_15 hl (by decide) rfl (fun ls hl => ?_)
  refine lv_iload_n hx hb dX0_reckonNext_17 rfl (lv_at hl 5 rfl) ?_
  refine lv_iconst (v := 1) hx hb dX0_reckonNext_18 (by decide) ?_
  refine lv_ishr hx hb dX0_reckonNext_19 ?_
  refine lv_ti (y := (nI (gg / 2))) (pk_shrN (by omega) _ 1 (by decide)) ?_
  refine lv_istore (lv' := [(6, .int (nI (gg / 2))), (5, .int (nI (i + 1))), (4, .int (nI see)), (0, .ref w0), (1, .int (nI rn)), (2, .int (nI i)), (3, .int (nI gg))]) hx hb dX0_reckonNext_20 hl (by decide) rfl (fun ls hl => ?_)
  refine lv_iload hx hb dX0_reckonNext_22 (lv_at hl 1 rfl) ?_
  refine lv_iload hx hb dX0_reckonNext_24 (lv_at hl 2 rfl) ?_
  refine lv_iadd hx hb dX0_reckonNext_26 ?_
  refine lv_ti (y := (nI (i + 1 + see))) (nI_add (i + 1) see) ?_
  refine lv_aload_n hx hb dX0_reckonNext_27 rfl (lv_at hl 3 rfl) ?_
  refine va_get (D := D) (ci := 0) (v := .ref h0) (C := RX0) (T := TX0) (N := 5) hx hb hts inX0 hown hK hP 5 rfl rfl 0 (by decide) (hts _ tw_266) (fun _ h9 => h9) rfl dX0_reckonNext_28 ?_
  refine ro_i (D := D) (va_runV (As := []) (rest := [.int (nI (i + 1 + see))]) ⟨hx, hb, hml, hown, hts⟩ ((x_doors l D k st lo h0 h1 h2 h3 h4 n see tm g) s.heap.size) (cwV 0 hts (gV tw_531 tw_478 tw_479 tw_81 tw_480) rfl rfl rfl (by decide +kernel) ⟨Nat.le_of_ble_eq_true rfl, Nat.le_of_ble_eq_true rfl⟩) (pV hS hAlo hlo hP hK hDL hZ [0, 1] (by decide) rfl (ci := 5) (q0 := 0) rfl rfl) rfl rfl hl.1 rfl (lv_room (Nat.le_of_ble_eq_true rfl)) dX0_reckonNext_31 ⟨Nat.le_of_ble_eq_true rfl, Nat.le_of_ble_eq_true rfl⟩) hS hA hP (fun r_1 H locs hw_1 hP hS => ?_)
  try dsimp only at hw_1
  subst hw_1
  refine lv_icmp_lt (tgt := 47) hx hb dX0_reckonNext_34 (by decide) (fun c_2 => ?_) (fun c_2 => ?_)
  · have c_2 := (nI_ltI (a := (i + 1 + see)) (b := n) (by omega) (by omega)).mp c_2
    refine lv_aload_n hx hb dX0_reckonNext_47 rfl (lv_at hl 3 rfl) ?_
    refine va_get (D := D) (ci := 0) (v := .ref h0) (C := RX0) (T := TX0) (N := 5) hx hb hts inX0 hown hK hP 5 rfl rfl 0 (by decide) (hts _ tw_266) (fun _ h9 => h9) rfl dX0_reckonNext_48 ?_
    refine lv_iload hx hb dX0_reckonNext_51 (lv_at hl 1 rfl) ?_
    refine lv_iload hx hb dX0_reckonNext_53 (lv_at hl 2 rfl) ?_
    refine lv_iadd hx hb dX0_reckonNext_55 ?_
    refine lv_ti (y := (nI (i + 1 + see))) (nI_add (i + 1) see) ?_
    refine lv_iload_n hx hb dX0_reckonNext_56 rfl (lv_at hl 6 rfl) ?_
    refine lv_iload hx hb dX0_reckonNext_57 (lv_at hl 2 rfl) ?_
    refine lv_ishr hx hb dX0_reckonNext_59 ?_
    refine lv_topi (fun x_3 ex_3 => ?_)
    refine lv_iconst (v := 1) hx hb dX0_reckonNext_60 (by decide) ?_
    refine lv_iand hx hb dX0_reckonNext_61 ?_
    refine lv_topi (fun x_4 ex_4 => ?_)
    refine lv_if_eq (tgt := 69) hx hb dX0_reckonNext_62 (by decide) (fun c_5 => ?_) (fun c_5 => ?_)
    · refine lv_iconst (v := 0) hx hb dX0_reckonNext_69 (by decide) ?_
      refine ro_i (D := D) (va_runV (As := [.int (nI (i + 1 + see)), .int 0]) (rest := []) ⟨hx, hb, hml, hown, hts⟩ ((x_chanceOf l D k st lo h0 h1 h2 h3 h4 n see tm g ff (i + 1 + see) 0 (by omega)) H.size) (cwV 2 hts (gV tw_564 tw_565 tw_566 tw_81 tw_567) rfl rfl rfl (by decide +kernel) ⟨Nat.le_of_ble_eq_true rfl, Nat.le_of_ble_eq_true rfl⟩) (pV hS hAlo hlo hP hK hDL hZ [0, 1, 2] (by decide) rfl (ci := 5) (q0 := 0) rfl rfl) rfl rfl hl.1 rfl (lv_room (Nat.le_of_ble_eq_true rfl)) dX0_reckonNext_70 ⟨Nat.le_of_ble_eq_true rfl, Nat.le_of_ble_eq_true rfl⟩) hS hA hP (fun r_6 H locs hw_6 hP hS => ?_)
      try dsimp only at hw_6
      refine lv_istore (lv' := [(7, .int r_6), (6, .int (nI (gg / 2))), (5, .int (nI (i + 1))), (4, .int (nI see)), (0, .ref w0), (1, .int (nI rn)), (2, .int (nI i)), (3, .int (nI gg))]) hx hb dX0_reckonNext_73 hl (by decide) rfl (fun ls hl => ?_)
      refine lv_iload hx hb dX0_reckonNext_75 (lv_at hl 0 rfl) ?_
      refine lv_aload_n hx hb dX0_reckonNext_77 rfl (lv_at hl 4 rfl) ?_
      refine lv_iload_n hx hb dX0_reckonNext_78 rfl (lv_at hl 5 rfl) ?_
      refine lv_iload hx hb dX0_reckonNext_79 (lv_at hl 2 rfl) ?_
      refine lv_iload hx hb dX0_reckonNext_81 (lv_at hl 1 rfl) ?_
      refine lv_iconst (v := 1) hx hb dX0_reckonNext_83 (by decide) ?_
      refine lv_iload hx hb dX0_reckonNext_84 (lv_at hl 3 rfl) ?_
      obtain ⟨pw_7, epw_7⟩ : ∃ z : Nat, z = 2 ^ (see) := ⟨_, rfl⟩
      have hpw_7 : 1 ≤ pw_7 ∧ pw_7 ≤ 4 := by rw [epw_7]; exact pw4 (by omega)
      refine lv_ishl hx hb dX0_reckonNext_86 ?_
      refine lv_ti (y := (nI pw_7)) (by rw [epw_7]; exact shl1 see (by omega)) ?_
      obtain ⟨ov_8, hov_8, eov_8⟩ := or8 (gg / 2) (by omega) pw_7 (by omega)
      refine lv_ior hx hb dX0_reckonNext_87 ?_
      refine lv_ti (y := (nI ov_8)) eov_8 ?_
      refine ro_i (D := D) (va_runV (As := [.int (nI rn), .int (nI (i + 1)), .int (nI ov_8)]) (rest := [.int r_6]) ⟨hx, hb, hml, hown, hts⟩ ((x_worthOf l D k st lo h0 h1 h2 h3 h4 n see tm g fp fl w0 w1 w2 w3 w4 on rn (i + 1) ov_8 (by omega) (by omega) (by omega)) H.size) (cwV 3 hts (gV tw_545 tw_546 tw_547 tw_85 tw_548) rfl rfl rfl (by decide +kernel) ⟨Nat.le_of_ble_eq_true rfl, Nat.le_of_ble_eq_true rfl⟩) (pV hS hAlo hlo hP hK hDL hZ [0, 1, 3, 4, 5, 6] (by decide) rfl (ci := 0) (q0 := 4) rfl rfl) rfl rfl hl.1 rfl (lv_room (Nat.le_of_ble_eq_true rfl)) dX0_reckonNext_88 ⟨Nat.le_of_ble_eq_true rfl, Nat.le_of_ble_eq_true rfl⟩) hS hA hP (fun r_9 H locs hw_9 hP hS => ?_)
      try dsimp only at hw_9
      refine lv_aload_n hx hb dX0_reckonNext_91 rfl (lv_at hl 4 rfl) ?_
      refine lv_iload_n hx hb dX0_reckonNext_92 rfl (lv_at hl 5 rfl) ?_
      refine lv_iload hx hb dX0_reckonNext_93 (lv_at hl 2 rfl) ?_
      refine lv_iload hx hb dX0_reckonNext_95 (lv_at hl 1 rfl) ?_
      refine ro_i (D := D) (va_runV (As := [.int (nI rn), .int (nI (i + 1)), .int (nI (gg / 2))]) (rest := [.int r_9, .int r_6]) ⟨hx, hb, hml, hown, hts⟩ ((x_worthOf l D k st lo h0 h1 h2 h3 h4 n see tm g fp fl w0 w1 w2 w3 w4 on rn (i + 1) (gg / 2) (by omega) (by omega) (by omega)) H.size) (cwV 3 hts (gV tw_545 tw_546 tw_547 tw_85 tw_548) rfl rfl rfl (by decide +kernel) ⟨Nat.le_of_ble_eq_true rfl, Nat.le_of_ble_eq_true rfl⟩) (pV hS hAlo hlo hP hK hDL hZ [0, 1, 3, 4, 5, 6] (by decide) rfl (ci := 0) (q0 := 4) rfl rfl) rfl rfl hl.1 rfl (lv_room (Nat.le_of_ble_eq_true rfl)) dX0_reckonNext_97 ⟨Nat.le_of_ble_eq_true rfl, Nat.le_of_ble_eq_true rfl⟩) hS hA hP (fun r_10 H locs hw_10 hP hS => ?_)
      try dsimp only at hw_10
      refine ro_i (D := D) (va_runSN (As := [.int r_6, .int r_9, .int r_10]) (rest := []) ⟨hx, hb, hml, hown, hts⟩ ((x_mixed l D k st lo r_6 r_9 r_10) H.size) ⟨va_cnB 3 hts (gLW tw_570) rfl rfl rfl (hZ.2.2.2.2.2.2.2.2.1.1 (RX0, 80, yX7_mixed, RX7) (List.mem_of_getElem? (i := 5) rfl)) (hts _ tw_79) (by decide +kernel) ⟨Nat.le_of_ble_eq_true rfl, Nat.le_of_ble_eq_true rfl⟩, hts _ tw_569, trivial⟩ (pS hS hAlo hlo hP hK hDL hZ [] (by decide) rfl) rfl rfl hl.1 rfl (lv_room (Nat.le_of_ble_eq_true rfl)) dX0_reckonNext_100 ⟨Nat.le_of_ble_eq_true rfl, Nat.le_of_ble_eq_true rfl⟩) hS hA hP (fun r_11 H locs hw_11 hP hS => ?_)
      try dsimp only at hw_11
      exact W.iret (v := r_11) hx hb hr (fun t ht hW => ⟨⟨r_11, (), rfl, trivial, trivial⟩, hS.F ht⟩) hS.2.2 dX0_reckonNext_103
    · refine lv_iconst (v := 1) hx hb dX0_reckonNext_65 (by decide) ?_
      refine lv_goto (tgt := 70) hx hb dX0_reckonNext_66 (by decide) ?_
      refine ro_i (D := D) (va_runV (As := [.int (nI (i + 1 + see)), .int 1]) (rest := []) ⟨hx, hb, hml, hown, hts⟩ ((x_chanceOf l D k st lo h0 h1 h2 h3 h4 n see tm g ff (i + 1 + see) 1 (by omega)) H.size) (cwV 2 hts (gV tw_564 tw_565 tw_566 tw_81 tw_567) rfl rfl rfl (by decide +kernel) ⟨Nat.le_of_ble_eq_true rfl, Nat.le_of_ble_eq_true rfl⟩) (pV hS hAlo hlo hP hK hDL hZ [0, 1, 2] (by decide) rfl (ci := 5) (q0 := 0) rfl rfl) rfl rfl hl.1 rfl (lv_room (Nat.le_of_ble_eq_true rfl)) dX0_reckonNext_70 ⟨Nat.le_of_ble_eq_true rfl, Nat.le_of_ble_eq_true rfl⟩) hS hA hP (fun r_12 H locs hw_12 hP hS => ?_)
      try dsimp only at hw_12
      refine lv_istore (lv' := [(7, .int r_12), (6, .int (nI (gg / 2))), (5, .int (nI (i + 1))), (4, .int (nI see)), (0, .ref w0), (1, .int (nI rn)), (2, .int (nI i)), (3, .int (nI gg))]) hx hb dX0_reckonNext_73 hl (by decide) rfl (fun ls hl => ?_)
      refine lv_iload hx hb dX0_reckonNext_75 (lv_at hl 0 rfl) ?_
      refine lv_aload_n hx hb dX0_reckonNext_77 rfl (lv_at hl 4 rfl) ?_
      refine lv_iload_n hx hb dX0_reckonNext_78 rfl (lv_at hl 5 rfl) ?_
      refine lv_iload hx hb dX0_reckonNext_79 (lv_at hl 2 rfl) ?_
      refine lv_iload hx hb dX0_reckonNext_81 (lv_at hl 1 rfl) ?_
      refine lv_iconst (v := 1) hx hb dX0_reckonNext_83 (by decide) ?_
      refine lv_iload hx hb dX0_reckonNext_84 (lv_at hl 3 rfl) ?_
      obtain ⟨pw_13, epw_13⟩ : ∃ z : Nat, z = 2 ^ (see) := ⟨_, rfl⟩
      have hpw_13 : 1 ≤ pw_13 ∧ pw_13 ≤ 4 := by rw [epw_13]; exact pw4 (by omega)
      refine lv_ishl hx hb dX0_reckonNext_86 ?_
      refine lv_ti (y := (nI pw_13)) (by rw [epw_13]; exact shl1 see (by omega)) ?_
      obtain ⟨ov_14, hov_14, eov_14⟩ := or8 (gg / 2) (by omega) pw_13 (by omega)
      refine lv_ior hx hb dX0_reckonNext_87 ?_
      refine lv_ti (y := (nI ov_14)) eov_14 ?_
      refine ro_i (D := D) (va_runV (As := [.int (nI rn), .int (nI (i + 1)), .int (nI ov_14)]) (rest := [.int r_12]) ⟨hx, hb, hml, hown, hts⟩ ((x_worthOf l D k st lo h0 h1 h2 h3 h4 n see tm g fp fl w0 w1 w2 w3 w4 on rn (i + 1) ov_14 (by omega) (by omega) (by omega)) H.size) (cwV 3 hts (gV tw_545 tw_546 tw_547 tw_85 tw_548) rfl rfl rfl (by decide +kernel) ⟨Nat.le_of_ble_eq_true rfl, Nat.le_of_ble_eq_true rfl⟩) (pV hS hAlo hlo hP hK hDL hZ [0, 1, 3, 4, 5, 6] (by decide) rfl (ci := 0) (q0 := 4) rfl rfl) rfl rfl hl.1 rfl (lv_room (Nat.le_of_ble_eq_true rfl)) dX0_reckonNext_88 ⟨Nat.le_of_ble_eq_true rfl, Nat.le_of_ble_eq_true rfl⟩) hS hA hP (fun r_15 H locs hw_15 hP hS => ?_)
      try dsimp only at hw_15
      refine lv_aload_n hx hb dX0_reckonNext_91 rfl (lv_at hl 4 rfl) ?_
      refine lv_iload_n hx hb dX0_reckonNext_92 rfl (lv_at hl 5 rfl) ?_
      refine lv_iload hx hb dX0_reckonNext_93 (lv_at hl 2 rfl) ?_
      refine lv_iload hx hb dX0_reckonNext_95 (lv_at hl 1 rfl) ?_
      refine ro_i (D := D) (va_runV (As := [.int (nI rn), .int (nI (i + 1)), .int (nI (gg / 2))]) (rest := [.int r_15, .int r_12]) ⟨hx, hb, hml, hown, hts⟩ ((x_worthOf l D k st lo h0 h1 h2 h3 h4 n see tm g fp fl w0 w1 w2 w3 w4 on rn (i + 1) (gg / 2) (by omega) (by omega) (by omega)) H.size) (cwV 3 hts (gV tw_545 tw_546 tw_547 tw_85 tw_548) rfl rfl rfl (by decide +kernel) ⟨Nat.le_of_ble_eq_true rfl, Nat.le_of_ble_eq_true rfl⟩) (pV hS hAlo hlo hP hK hDL hZ [0, 1, 3, 4, 5, 6] (by decide) rfl (ci := 0) (q0 := 4) rfl rfl) rfl rfl hl.1 rfl (lv_room (Nat.le_of_ble_eq_true rfl)) dX0_reckonNext_97 ⟨Nat.le_of_ble_eq_true rfl, Nat.le_of_ble_eq_true rfl⟩) hS hA hP (fun r_16 H locs hw_16 hP hS => ?_)
      try dsimp only at hw_16
      refine ro_i (D := D) (va_runSN (As := [.int r_12, .int r_15, .int r_16]) (rest := []) ⟨hx, hb, hml, hown, hts⟩ ((x_mixed l D k st lo r_12 r_15 r_16) H.size) ⟨va_cnB 3 hts (gLW tw_570) rfl rfl rfl (hZ.2.2.2.2.2.2.2.2.1.1 (RX0, 80, yX7_mixed, RX7) (List.mem_of_getElem? (i := 5) rfl)) (hts _ tw_79) (by decide +kernel) ⟨Nat.le_of_ble_eq_true rfl, Nat.le_of_ble_eq_true rfl⟩, hts _ tw_569, trivial⟩ (pS hS hAlo hlo hP hK hDL hZ [] (by decide) rfl) rfl rfl hl.1 rfl (lv_room (Nat.le_of_ble_eq_true rfl)) dX0_reckonNext_100 ⟨Nat.le_of_ble_eq_true rfl, Nat.le_of_ble_eq_true rfl⟩) hS hA hP (fun r_17 H locs hw_17 hP hS => ?_)
      try dsimp only at hw_17
      exact W.iret (v := r_17) hx hb hr (fun t ht hW => ⟨⟨r_17, (), rfl, trivial, trivial⟩, hS.F ht⟩) hS.2.2 dX0_reckonNext_103
  · have c_2 : ¬ ((i + 1 + see) < n) := fun h => c_2 ((nI_ltI (a := (i + 1 + see)) (b := n) (by omega) (by omega)).mpr h)
    refine lv_aload_n hx hb dX0_reckonNext_37 rfl (lv_at hl 3 rfl) ?_
    refine lv_iload_n hx hb dX0_reckonNext_38 rfl (lv_at hl 4 rfl) ?_
    refine lv_iload hx hb dX0_reckonNext_39 (lv_at hl 1 rfl) ?_
    refine lv_iload hx hb dX0_reckonNext_41 (lv_at hl 0 rfl) ?_
    refine ro_i (D := D) (va_runV (As := [.int (nI rn), .int (nI (i + 1)), .int (nI (gg / 2))]) (rest := []) ⟨hx, hb, hml, hown, hts⟩ ((x_worthOf l D k st lo h0 h1 h2 h3 h4 n see tm g fp fl w0 w1 w2 w3 w4 on rn (i + 1) (gg / 2) (by omega) (by omega) (by omega)) H.size) (cwV 3 hts (gV tw_545 tw_546 tw_547 tw_85 tw_548) rfl rfl rfl (by decide +kernel) ⟨Nat.le_of_ble_eq_true rfl, Nat.le_of_ble_eq_true rfl⟩) (pV hS hAlo hlo hP hK hDL hZ [0, 1, 3, 4, 5, 6] (by decide) rfl (ci := 0) (q0 := 4) rfl rfl) rfl rfl hl.1 rfl (lv_room (Nat.le_of_ble_eq_true rfl)) dX0_reckonNext_43 ⟨Nat.le_of_ble_eq_true rfl, Nat.le_of_ble_eq_true rfl⟩) hS hA hP (fun r_18 H locs hw_18 hP hS => ?_)
    try dsimp only at hw_18
    exact W.iret (v := r_18) hx hb hr (fun t ht hW => ⟨⟨r_18, (), rfl, trivial, trivial⟩, hS.F ht⟩) hS.2.2 dX0_reckonNext_46


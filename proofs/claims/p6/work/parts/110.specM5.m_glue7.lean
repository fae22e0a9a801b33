theorem m_glue7 : True := trivial
theorem shl1 : ∀ k, k < 31 → (1 : Int32) <<< (nI k &&& 31) = nI (2 ^ k) := by decide
theorem pw8 {k : Nat} (h : k ≤ 3) : 1 ≤ 2 ^ k ∧ 2 ^ k ≤ 8 := by
  rcases (show k = 0 ∨ k = 1 ∨ k = 2 ∨ k = 3 by omega) with rfl | rfl | rfl | rfl <;> decide
theorem pw4 {k : Nat} (h : k ≤ 2) : 1 ≤ 2 ^ k ∧ 2 ^ k ≤ 4 := by
  rcases (show k = 0 ∨ k = 1 ∨ k = 2 by omega) with rfl | rfl | rfl <;> decide
theorem pw24 {k : Nat} (h : k ≤ 24) : 1 ≤ 2 ^ k ∧ 2 ^ k ≤ 16777216 := by
  refine ⟨Nat.one_le_two_pow, ?_⟩
  exact Nat.pow_le_pow_right (by omega) h
theorem or8 : ∀ a, a < 8 → ∀ b, b < 8 → ∃ z : Nat, z < 8 ∧ nI a ||| nI b = nI z := by
  intro a ha b hb
  have h : ∀ a, a < 8 → ∀ b, b < 8 → nI a ||| nI b = nI (a ||| b) ∧ a ||| b < 8 := by decide
  exact ⟨a ||| b, (h a ha b hb).2, (h a ha b hb).1⟩

theorem dX8_on_0 : decode cX8_on 0 = .ok (.aload_n 0, 1) := by decide +kernel
theorem dX8_on_1 : decode cX8_on 1 = .ok (.iload_n 1, 1) := by decide +kernel
theorem dX8_on_2 : decode cX8_on 2 = .ok (.iconst 5, 1) := by decide +kernel
theorem dX8_on_3 : decode cX8_on 3 = .ok (.invokevirtual 212, 3) := by decide +kernel
theorem dX8_on_6 : decode cX8_on 6 = .ok (.istore 5, 2) := by decide +kernel
theorem dX8_on_8 : decode cX8_on 8 = .ok (.iload_n 3, 1) := by decide +kernel
theorem dX8_on_9 : decode cX8_on 9 = .ok (.iconst 1, 1) := by decide +kernel
theorem dX8_on_10 : decode cX8_on 10 = .ok (.iadd, 1) := by decide +kernel
theorem dX8_on_11 : decode cX8_on 11 = .ok (.iload 5, 2) := by decide +kernel
theorem dX8_on_13 : decode cX8_on 13 = .ok (.iadd, 1) := by decide +kernel
theorem dX8_on_14 : decode cX8_on 14 = .ok (.istore 6, 2) := by decide +kernel
theorem dX8_on_16 : decode cX8_on 16 = .ok (.iload 4, 2) := by decide +kernel
theorem dX8_on_18 : decode cX8_on 18 = .ok (.iconst 1, 1) := by decide +kernel
theorem dX8_on_19 : decode cX8_on 19 = .ok (.ishr, 1) := by decide +kernel
theorem dX8_on_20 : decode cX8_on 20 = .ok (.istore 7, 2) := by decide +kernel
theorem dX8_on_22 : decode cX8_on 22 = .ok (.iload 6, 2) := by decide +kernel
theorem dX8_on_24 : decode cX8_on 24 = .ok (.aload_n 0, 1) := by decide +kernel
theorem dX8_on_25 : decode cX8_on 25 = .ok (.getfield 7, 3) := by decide +kernel
theorem dX8_on_28 : decode cX8_on 28 = .ok (.iload_n 1, 1) := by decide +kernel
theorem dX8_on_29 : decode cX8_on 29 = .ok (.iaload, 1) := by decide +kernel
theorem dX8_on_30 : decode cX8_on 30 = .ok (.if_icmp .lt 18, 3) := by decide +kernel
theorem dX8_on_33 : decode cX8_on 33 = .ok (.aload_n 0, 1) := by decide +kernel
theorem dX8_on_34 : decode cX8_on 34 = .ok (.getfield 41, 3) := by decide +kernel
theorem dX8_on_37 : decode cX8_on 37 = .ok (.iload_n 2, 1) := by decide +kernel
theorem dX8_on_38 : decode cX8_on 38 = .ok (.iload_n 3, 1) := by decide +kernel
theorem dX8_on_39 : decode cX8_on 39 = .ok (.iconst 1, 1) := by decide +kernel
theorem dX8_on_40 : decode cX8_on 40 = .ok (.iadd, 1) := by decide +kernel
theorem dX8_on_41 : decode cX8_on 41 = .ok (.iload 7, 2) := by decide +kernel
theorem dX8_on_43 : decode cX8_on 43 = .ok (.invokestatic 242, 3) := by decide +kernel
theorem dX8_on_46 : decode cX8_on 46 = .ok (.iaload, 1) := by decide +kernel
theorem dX8_on_47 : decode cX8_on 47 = .ok (.ireturn, 1) := by decide +kernel
theorem dX8_on_48 : decode cX8_on 48 = .ok (.aload_n 0, 1) := by decide +kernel
theorem dX8_on_49 : decode cX8_on 49 = .ok (.iload_n 1, 1) := by decide +kernel
theorem dX8_on_50 : decode cX8_on 50 = .ok (.iload 6, 2) := by decide +kernel
theorem dX8_on_52 : decode cX8_on 52 = .ok (.iload 4, 2) := by decide +kernel
theorem dX8_on_54 : decode cX8_on 54 = .ok (.iload 5, 2) := by decide +kernel
theorem dX8_on_56 : decode cX8_on 56 = .ok (.ishr, 1) := by decide +kernel
theorem dX8_on_57 : decode cX8_on 57 = .ok (.iconst 1, 1) := by decide +kernel
theorem dX8_on_58 : decode cX8_on 58 = .ok (.iand, 1) := by decide +kernel
theorem dX8_on_59 : decode cX8_on 59 = .ok (.iconst 1, 1) := by decide +kernel
theorem dX8_on_60 : decode cX8_on 60 = .ok (.if_icmp .ne 7, 3) := by decide +kernel
theorem dX8_on_63 : decode cX8_on 63 = .ok (.iconst 1, 1) := by decide +kernel
theorem dX8_on_64 : decode cX8_on 64 = .ok (.goto 4, 3) := by decide +kernel
theorem dX8_on_67 : decode cX8_on 67 = .ok (.iconst 0, 1) := by decide +kernel
theorem dX8_on_68 : decode cX8_on 68 = .ok (.invokevirtual 219, 3) := by decide +kernel
theorem dX8_on_71 : decode cX8_on 71 = .ok (.istore 8, 2) := by decide +kernel
theorem dX8_on_73 : decode cX8_on 73 = .ok (.iload 8, 2) := by decide +kernel
theorem dX8_on_75 : decode cX8_on 75 = .ok (.aload_n 0, 1) := by decide +kernel
theorem dX8_on_76 : decode cX8_on 76 = .ok (.getfield 41, 3) := by decide +kernel
theorem dX8_on_79 : decode cX8_on 79 = .ok (.iload_n 2, 1) := by decide +kernel
theorem dX8_on_80 : decode cX8_on 80 = .ok (.iload_n 3, 1) := by decide +kernel
theorem dX8_on_81 : decode cX8_on 81 = .ok (.iconst 1, 1) := by decide +kernel
theorem dX8_on_82 : decode cX8_on 82 = .ok (.iadd, 1) := by decide +kernel
theorem dX8_on_83 : decode cX8_on 83 = .ok (.iload 7, 2) := by decide +kernel
theorem dX8_on_85 : decode cX8_on 85 = .ok (.iconst 1, 1) := by decide +kernel
theorem dX8_on_86 : decode cX8_on 86 = .ok (.iload 5, 2) := by decide +kernel
theorem dX8_on_88 : decode cX8_on 88 = .ok (.ishl, 1) := by decide +kernel
theorem dX8_on_89 : decode cX8_on 89 = .ok (.ior, 1) := by decide +kernel
theorem dX8_on_90 : decode cX8_on 90 = .ok (.invokestatic 242, 3) := by decide +kernel
theorem dX8_on_93 : decode cX8_on 93 = .ok (.iaload, 1) := by decide +kernel
theorem dX8_on_94 : decode cX8_on 94 = .ok (.aload_n 0, 1) := by decide +kernel
theorem dX8_on_95 : decode cX8_on 95 = .ok (.getfield 41, 3) := by decide +kernel
theorem dX8_on_98 : decode cX8_on 98 = .ok (.iload_n 2, 1) := by decide +kernel
theorem dX8_on_99 : decode cX8_on 99 = .ok (.iload_n 3, 1) := by decide +kernel
theorem dX8_on_100 : decode cX8_on 100 = .ok (.iconst 1, 1) := by decide +kernel
theorem dX8_on_101 : decode cX8_on 101 = .ok (.iadd, 1) := by decide +kernel
theorem dX8_on_102 : decode cX8_on 102 = .ok (.iload 7, 2) := by decide +kernel
theorem dX8_on_104 : decode cX8_on 104 = .ok (.invokestatic 242, 3) := by decide +kernel
theorem dX8_on_107 : decode cX8_on 107 = .ok (.iaload, 1) := by decide +kernel
theorem dX8_on_108 : decode cX8_on 108 = .ok (.invokestatic 245, 3) := by decide +kernel
theorem dX8_on_111 : decode cX8_on 111 = .ok (.ireturn, 1) := by decide +kernel
set_option maxHeartbeats 4000000 in
set_option maxRecDepth 100000 in
theorem m_on (l : Launch) (D : va_G) (k : Nat → ClassId) (st : Nat → Nat) (lo : Nat) (a : Nat → Nat) (tx : Nat) (t0 : Nat) (we : Nat) (rd : Nat) (ru : Nat) (rw : Nat) (ca : Nat) (fp : Int32) (wd : Int64) (nu : Int32) (na : Int32) (ts : Int32) (df : Int32) (db : Int32) (sd : Int32) (dn : Nat → Nat) (se : Nat → Nat) (tm : Nat → Nat) (gs : Nat → Int32) (ffrees : Nat → Int32) (fworths : Nat → Int32) (sn : Nat) (rn : Nat) (i : Nat) (g : Nat) (hdn : ∀ j, dn j ≤ 24) (hse : ∀ j, se j ≤ 2) (hs : sn < 3) (hrn : rn ≤ 3) (hi : i + 1 < dn sn) (hg : g < 8) : CRi l D k st lo yX8_on cX8_on 9 (some .int) ({ frames := 2, cells := 0, slots := 0, locals := 47 }) [.ref (a 0), .int (nI sn), .int (nI rn), .int (nI i), .int (nI g)] [((a 0), .inr (8, (fX8 a (nI tx) fp (nI t0) wd (nI we) nu na (nI rd) ts (nI ru) (nI rw) (nI ca) df db sd))), (aI k (a 1) 3 (nF dn)), (aI k (a 4) 27 (sg se tm gs)), (aI k (a 2) 72 ffrees), (aI k (a 19) 768 fworths)] (fun r => True) := by
  intro sz
  refine Met.ofW (cc := cX8_on) (maxL := 9) (ret := (some .int)) (by decide) rfl ?_
  intro p e s m args below meth c s₁ B hml hv
  obtain ⟨rfl, hsz, hlo, hP, hK, hDL, hZ⟩ := hv
  have hx := B.exec
  have hb := B.bytes
  have hr := B.returns
  have hts := WS_ts B.pre
  have hown : s.vm.findClass RX8 = some m.cls := findClass_of_methodNamed B.named
  have hlocks := B.notSynchronized
  subst hsz
  have hA : ∀ q : Nat, s.heap.size ≤ q → (fun q : Nat => s.heap.size ≤ q) q := fun _ h => h
  have hAlo : ∀ q : Nat, (fun q : Nat => s.heap.size ≤ q) q → lo ≤ q := fun q h => Nat.le_trans hlo h
  have hS : va_S (fun q : Nat => s.heap.size ≤ q) s.heap s.heap [] := va_S.rf
  have hl := lv_entry ([.ref (a 0), .int (nI sn), .int (nI rn), .int (nI i), .int (nI g)]) (n := 9) (Nat.le_of_ble_eq_true rfl)
  rw [lg_entry_eq]
  generalize (lg_sl ([.ref (a 0), .int (nI sn), .int (nI rn), .int (nI i), .int (nI g)]) ++ List.replicate (9 - (lg_sl ([.ref (a 0), .int (nI sn), .int (nI rn), .int (nI i), .int (nI g)])).length) Slot.unset).toArray = ls at hl ⊢
  have hl : lv_has ls 9 [(0, .ref (a 0)), (1, .int (nI sn)), (2, .int (nI rn)), (3, .int (nI i)), (4, .int (nI g))] := hl
  have hd_9 := hdn sn
  have hd_8 := hse sn
  refine lv_aload_n hx hb dX8_on_0 rfl (lv_at hl 0 rfl) ?_
  refine lv_iload_n hx hb dX8_on_1 rfl (lv_at hl 1 rfl) ?_
  refine lv_iconst (v := 5) hx hb dX8_on_2 (by decide) ?_
  refine ro_i (D := D) (va_runV (As := [.int (nI sn), .int 5]) (rest := []) ⟨hx, hb, hml, hown, hts⟩ ((m_of l D k st lo a tx t0 we rd ru rw ca fp wd nu na ts df db sd se tm gs sn 5 (by omega) (by omega)) s.heap.size) (cwV 2 hts (gV tw_1194 tw_1196 tw_39 tw_87 tw_1197) rfl rfl rfl (by decide +kernel) ⟨Nat.le_of_ble_eq_true rfl, Nat.le_of_ble_eq_true rfl⟩) (pV hS hAlo hlo hP hK hDL hZ [0, 2] (by decide) rfl (ci := 8) (q := (RX8, TX8, 44)) (q0 := 0) rfl rfl) rfl rfl hl.1 rfl (lv_room (Nat.le_of_ble_eq_true rfl)) dX8_on_3 ⟨Nat.le_of_ble_eq_true rfl, Nat.le_of_ble_eq_true rfl⟩) hS hA hP (fun r_1 H locs hw_1 hP hS => ?_)
  try dsimp only at hw_1
  obtain rfl := hw_1.trans (sg_se _ _ _ _)
  refine lv_istore (lv' := [(5, .int (nI (se sn))), (0, .ref (a 0)), (1, .int (nI sn)), (2, .int (nI rn)), (3, .int (nI i)), (4, .int (nI g))]) hx hb dX8_on_6 hl (by decide) rfl (fun ls hl => ?_)
  refine lv_iload_n hx hb dX8_on_8 rfl (lv_at hl 4 rfl) ?_
  refine lv_iconst (v := 1) hx hb dX8_on_9 (by decide) ?_
  refine lv_iadd hx hb dX8_on_10 ?_
  refine lv_ti (y := (nI (i + 1))) (nI_add i 1) ?_
  refine lv_iload hx hb dX8_on_11 (lv_at hl 0 rfl) ?_
  refine lv_iadd hx hb dX8_on_13 ?_
  refine lv_ti (y := (nI (i + 1 + se sn))) (nI_add (i + 1) (se sn)) ?_
  refine lv_istore (lv' := [(6, .int (nI (i + 1 + se sn))), (5, .int (nI (se sn))), (0, .ref (a 0)), (1, .int (nI sn)), (2, .int (nI rn)), (3, .int (nI i)), (4, .int (nI g))]) hx hb dX8_on_14 hl (by decide) rfl (fun ls hl => ?_)
  refine lv_iload hx hb dX8_on_16 (lv_at hl 6 rfl) ?_
  refine lv_iconst (v := 1) hx hb dX8_on_18 (by decide) ?_
  refine lv_ishr hx hb dX8_on_19 ?_
  refine lv_ti (y := (nI (g / 2))) (pk_shrN (by omega) _ 1 (by decide)) ?_
  refine lv_istore (lv' := [(7, .int (nI (g / 2))), (6, .int (nI (i + 1 + se sn))), (5, .int (nI (se sn))), (0, .ref (a 0)), (1, .int (nI sn)), (2, .int (nI rn)), (3, .int (nI i)), (4, .int (nI g))]) hx hb dX8_on_20 hl (by decide) rfl (fun ls hl => ?_)
  refine lv_iload hx hb dX8_on_22 (lv_at hl 1 rfl) ?_
  refine lv_aload_n hx hb dX8_on_24 rfl (lv_at hl 3 rfl) ?_
  refine va_get (D := D) (ci := 8) (v := .ref (a 1)) (C := RX8) (T := TX8) (N := 44) hx hb hts inX8 hown hK hP 0 rfl rfl 0 (by decide) (hts _ tw_973) (fun _ h9 => h9) rfl dX8_on_25 ?_
  refine lv_iload_n hx hb dX8_on_28 rfl (lv_at hl 4 rfl) ?_
  refine va_iald hx hb hK hP 1 1 rfl rfl (vp_in_nI (by omega) (by decide)) dX8_on_29 ?_
  refine lv_ti (y := (nI (dn sn))) (by rw [nI_clamp (by omega)]; rfl) ?_
  refine lv_icmp_lt (tgt := 48) hx hb dX8_on_30 (by decide) (fun c_2 => ?_) (fun c_2 => ?_)
  · have c_2 := (nI_ltI (a := (i + 1 + se sn)) (b := (dn sn)) (by omega) (by omega)).mp c_2
    refine lv_aload_n hx hb dX8_on_48 rfl (lv_at hl 3 rfl) ?_
    refine lv_iload_n hx hb dX8_on_49 rfl (lv_at hl 4 rfl) ?_
    refine lv_iload hx hb dX8_on_50 (lv_at hl 1 rfl) ?_
    refine lv_iload hx hb dX8_on_52 (lv_at hl 7 rfl) ?_
    refine lv_iload hx hb dX8_on_54 (lv_at hl 2 rfl) ?_
    refine lv_ishr hx hb dX8_on_56 ?_
    refine lv_topi (fun x_3 ex_3 => ?_)
    refine lv_iconst (v := 1) hx hb dX8_on_57 (by decide) ?_
    refine lv_iand hx hb dX8_on_58 ?_
    refine lv_topi (fun x_4 ex_4 => ?_)
    refine lv_iconst (v := 1) hx hb dX8_on_59 (by decide) ?_
    refine lv_icmp_ne (tgt := 67) hx hb dX8_on_60 (by decide) (fun c_5 => ?_) (fun c_5 => ?_)
    · refine lv_iconst (v := 0) hx hb dX8_on_67 (by decide) ?_
      refine ro_i (D := D) (va_runV (As := [.int (nI sn), .int (nI (i + 1 + se sn)), .int 0]) (rest := []) ⟨hx, hb, hml, hown, hts⟩ ((m_chanceOf l D k st lo a tx t0 we rd ru rw ca fp wd nu na ts df db sd ffrees se tm gs sn (i + 1 + se sn) 0 (by omega) (by omega)) H.size) (cwV 3 hts (gV tw_1210 tw_1212 tw_41 tw_87 tw_1213) rfl rfl rfl (by decide +kernel) ⟨Nat.le_of_ble_eq_true rfl, Nat.le_of_ble_eq_true rfl⟩) (pV hS hAlo hlo hP hK hDL hZ [0, 3, 2] (by decide) rfl (ci := 8) (q := (RX8, TX8, 44)) (q0 := 0) rfl rfl) rfl rfl hl.1 rfl (lv_room (Nat.le_of_ble_eq_true rfl)) dX8_on_68 ⟨Nat.le_of_ble_eq_true rfl, Nat.le_of_ble_eq_true rfl⟩) hS hA hP (fun r_6 H locs hw_6 hP hS => ?_)
      try dsimp only at hw_6
      refine lv_istore (lv' := [(8, .int r_6), (7, .int (nI (g / 2))), (6, .int (nI (i + 1 + se sn))), (5, .int (nI (se sn))), (0, .ref (a 0)), (1, .int (nI sn)), (2, .int (nI rn)), (3, .int (nI i)), (4, .int (nI g))]) hx hb dX8_on_71 hl (by decide) rfl (fun ls hl => ?_)
      refine lv_iload hx hb dX8_on_73 (lv_at hl 0 rfl) ?_
      refine lv_aload_n hx hb dX8_on_75 rfl (lv_at hl 4 rfl) ?_
      refine va_get (D := D) (ci := 8) (v := .ref (a 19)) (C := RX8) (T := TX8) (N := 44) hx hb hts inX8 hown hK hP 0 rfl rfl 18 (by decide) (hts _ tw_991) (fun _ h9 => h9) rfl dX8_on_76 ?_
      refine lv_iload_n hx hb dX8_on_79 rfl (lv_at hl 6 rfl) ?_
      refine lv_iload_n hx hb dX8_on_80 rfl (lv_at hl 7 rfl) ?_
      refine lv_iconst (v := 1) hx hb dX8_on_81 (by decide) ?_
      refine lv_iadd hx hb dX8_on_82 ?_
      refine lv_ti (y := (nI (i + 1))) (nI_add i 1) ?_
      refine lv_iload hx hb dX8_on_83 (lv_at hl 1 rfl) ?_
      refine lv_iconst (v := 1) hx hb dX8_on_85 (by decide) ?_
      refine lv_iload hx hb dX8_on_86 (lv_at hl 3 rfl) ?_
      obtain ⟨pw_7, epw_7⟩ : ∃ z : Nat, z = 2 ^ (se sn) := ⟨_, rfl⟩
      have hpw_7 : 1 ≤ pw_7 ∧ pw_7 ≤ 4 := by rw [epw_7]; exact pw4 (by omega)
      refine lv_ishl hx hb dX8_on_88 ?_
      refine lv_ti (y := (nI pw_7)) (by rw [epw_7]; exact shl1 (se sn) (by omega)) ?_
      obtain ⟨ov_8, hov_8, eov_8⟩ := or8 (g / 2) (by omega) pw_7 (by omega)
      refine lv_ior hx hb dX8_on_89 ?_
      refine lv_ti (y := (nI ov_8)) eov_8 ?_
      refine ro_i (D := D) (va_runS (As := [.int (nI rn), .int (nI (i + 1)), .int (nI ov_8)]) (rest := [.ref (a 19), .int r_6]) ⟨hx, hb, hml, hown, hts⟩ ((m_at l D k st lo rn (i + 1) ov_8) H.size) (va_cwS 3 hts (gS tw_1266 tw_1267 tw_87 tw_1268) rfl rfl rfl (by decide +kernel) ⟨Nat.le_of_ble_eq_true rfl, Nat.le_of_ble_eq_true rfl⟩) (pS hS hAlo hlo hP hK hDL hZ [] (by decide) rfl) rfl rfl hl.1 rfl (lv_room (Nat.le_of_ble_eq_true rfl)) dX8_on_90 ⟨Nat.le_of_ble_eq_true rfl, Nat.le_of_ble_eq_true rfl⟩) hS hA hP (fun r_9 H locs hw_9 hP hS => ?_)
      try dsimp only at hw_9
      subst hw_9
      refine va_iald hx hb hK hP 4 1 rfl rfl (vp_in_nI (by omega) (by decide)) dX8_on_93 ?_
      refine lv_ti (y := (fworths (192 * rn + 8 * (i + 1) + ov_8))) (by rw [nI_clamp (by omega)]) ?_
      refine lv_aload_n hx hb dX8_on_94 rfl (lv_at hl 4 rfl) ?_
      refine va_get (D := D) (ci := 8) (v := .ref (a 19)) (C := RX8) (T := TX8) (N := 44) hx hb hts inX8 hown hK hP 0 rfl rfl 18 (by decide) (hts _ tw_991) (fun _ h9 => h9) rfl dX8_on_95 ?_
      refine lv_iload_n hx hb dX8_on_98 rfl (lv_at hl 6 rfl) ?_
      refine lv_iload_n hx hb dX8_on_99 rfl (lv_at hl 7 rfl) ?_
      refine lv_iconst (v := 1) hx hb dX8_on_100 (by decide) ?_
      refine lv_iadd hx hb dX8_on_101 ?_
      refine lv_ti (y := (nI (i + 1))) (nI_add i 1) ?_
      refine lv_iload hx hb dX8_on_102 (lv_at hl 1 rfl) ?_
      refine ro_i (D := D) (va_runS (As := [.int (nI rn), .int (nI (i + 1)), .int (nI (g / 2))]) (rest := [.ref (a 19), .int (fworths (192 * rn + 8 * (i + 1) + ov_8)), .int r_6]) ⟨hx, hb, hml, hown, hts⟩ ((m_at l D k st lo rn (i + 1) (g / 2)) H.size) (va_cwS 3 hts (gS tw_1266 tw_1267 tw_87 tw_1268) rfl rfl rfl (by decide +kernel) ⟨Nat.le_of_ble_eq_true rfl, Nat.le_of_ble_eq_true rfl⟩) (pS hS hAlo hlo hP hK hDL hZ [] (by decide) rfl) rfl rfl hl.1 rfl (lv_room (Nat.le_of_ble_eq_true rfl)) dX8_on_104 ⟨Nat.le_of_ble_eq_true rfl, Nat.le_of_ble_eq_true rfl⟩) hS hA hP (fun r_10 H locs hw_10 hP hS => ?_)
      try dsimp only at hw_10
      subst hw_10
      refine va_iald hx hb hK hP 4 1 rfl rfl (vp_in_nI (by omega) (by decide)) dX8_on_107 ?_
      refine lv_ti (y := (fworths (192 * rn + 8 * (i + 1) + (g / 2)))) (by rw [nI_clamp (by omega)]) ?_
      refine ro_i (D := D) (va_runS (As := [.int r_6, .int (fworths (192 * rn + 8 * (i + 1) + ov_8)), .int (fworths (192 * rn + 8 * (i + 1) + (g / 2)))]) (rest := []) ⟨hx, hb, hml, hown, hts⟩ ((m_mixed l D k st lo r_6 (fworths (192 * rn + 8 * (i + 1) + ov_8)) (fworths (192 * rn + 8 * (i + 1) + (g / 2)))) H.size) (va_cwS 3 hts (gS tw_1269 tw_1270 tw_87 tw_1271) rfl rfl rfl (by decide +kernel) ⟨Nat.le_of_ble_eq_true rfl, Nat.le_of_ble_eq_true rfl⟩) (pS hS hAlo hlo hP hK hDL hZ [] (by decide) rfl) rfl rfl hl.1 rfl (lv_room (Nat.le_of_ble_eq_true rfl)) dX8_on_108 ⟨Nat.le_of_ble_eq_true rfl, Nat.le_of_ble_eq_true rfl⟩) hS hA hP (fun r_11 H locs hw_11 hP hS => ?_)
      try dsimp only at hw_11
      exact W.iret (v := r_11) hx hb hr (fun t ht hW => ⟨⟨r_11, (), rfl, trivial, trivial⟩, hS.F ht⟩) hS.2.2 dX8_on_111
    · refine lv_iconst (v := 1) hx hb dX8_on_63 (by decide) ?_
      refine lv_goto (tgt := 68) hx hb dX8_on_64 (by decide) ?_
      refine ro_i (D := D) (va_runV (As := [.int (nI sn), .int (nI (i + 1 + se sn)), .int 1]) (rest := []) ⟨hx, hb, hml, hown, hts⟩ ((m_chanceOf l D k st lo a tx t0 we rd ru rw ca fp wd nu na ts df db sd ffrees se tm gs sn (i + 1 + se sn) 1 (by omega) (by omega)) H.size) (cwV 3 hts (gV tw_1210 tw_1212 tw_41 tw_87 tw_1213) rfl rfl rfl (by decide +kernel) ⟨Nat.le_of_ble_eq_true rfl, Nat.le_of_ble_eq_true rfl⟩) (pV hS hAlo hlo hP hK hDL hZ [0, 3, 2] (by decide) rfl (ci := 8) (q := (RX8, TX8, 44)) (q0 := 0) rfl rfl) rfl rfl hl.1 rfl (lv_room (Nat.le_of_ble_eq_true rfl)) dX8_on_68 ⟨Nat.le_of_ble_eq_true rfl, Nat.le_of_ble_eq_true rfl⟩) hS hA hP (fun r_12 H locs hw_12 hP hS => ?_)
      try dsimp only at hw_12
      refine lv_istore (lv' := [(8, .int r_12), (7, .int (nI (g / 2))), (6, .int (nI (i + 1 + se sn))), (5, .int (nI (se sn))), (0, .ref (a 0)), (1, .int (nI sn)), (2, .int (nI rn)), (3, .int (nI i)), (4, .int (nI g))]) hx hb dX8_on_71 hl (by decide) rfl (fun ls hl => ?_)
      refine lv_iload hx hb dX8_on_73 (lv_at hl 0 rfl) ?_
      refine lv_aload_n hx hb dX8_on_75 rfl (lv_at hl 4 rfl) ?_
      refine va_get (D := D) (ci := 8) (v := .ref (a 19)) (C := RX8) (T := TX8) (N := 44) hx hb hts inX8 hown hK hP 0 rfl rfl 18 (by decide) (hts _ tw_991) (fun _ h9 => h9) rfl dX8_on_76 ?_
      refine lv_iload_n hx hb dX8_on_79 rfl (lv_at hl 6 rfl) ?_
      refine lv_iload_n hx hb dX8_on_80 rfl (lv_at hl 7 rfl) ?_
      refine lv_iconst (v := 1) hx hb dX8_on_81 (by decide) ?_
      refine lv_iadd hx hb dX8_on_82 ?_
      refine lv_ti (y := (nI (i + 1))) (nI_add i 1) ?_
      refine lv_iload hx hb dX8_on_83 (lv_at hl 1 rfl) ?_
      refine lv_iconst (v := 1) hx hb dX8_on_85 (by decide) ?_
      refine lv_iload hx hb dX8_on_86 (lv_at hl 3 rfl) ?_
      obtain ⟨pw_13, epw_13⟩ : ∃ z : Nat, z = 2 ^ (se sn) := ⟨_, rfl⟩
      have hpw_13 : 1 ≤ pw_13 ∧ pw_13 ≤ 4 := by rw [epw_13]; exact pw4 (by omega)
      refine lv_ishl hx hb dX8_on_88 ?_
      refine lv_ti (y := (nI pw_13)) (by rw [epw_13]; exact shl1 (se sn) (by omega)) ?_
      obtain ⟨ov_14, hov_14, eov_14⟩ := or8 (g / 2) (by omega) pw_13 (by omega)
      refine lv_ior hx hb dX8_on_89 ?_
      refine lv_ti (y := (nI ov_14)) eov_14 ?_
      refine ro_i (D := D) (va_runS (As := [.int (nI rn), .int (nI (i + 1)), .int (nI ov_14)]) (rest := [.ref (a 19), .int r_12]) ⟨hx, hb, hml, hown, hts⟩ ((m_at l D k st lo rn (i + 1) ov_14) H.size) (va_cwS 3 hts (gS tw_1266 tw_1267 tw_87 tw_1268) rfl rfl rfl (by decide +kernel) ⟨Nat.le_of_ble_eq_true rfl, Nat.le_of_ble_eq_true rfl⟩) (pS hS hAlo hlo hP hK hDL hZ [] (by decide) rfl) rfl rfl hl.1 rfl (lv_room (Nat.le_of_ble_eq_true rfl)) dX8_on_90 ⟨Nat.le_of_ble_eq_true rfl, Nat.le_of_ble_eq_true rfl⟩) hS hA hP (fun r_15 H locs hw_15 hP hS => ?_)
      try dsimp only at hw_15
      subst hw_15
      refine va_iald hx hb hK hP 4 1 rfl rfl (vp_in_nI (by omega) (by decide)) dX8_on_93 ?_
      refine lv_ti (y := (fworths (192 * rn + 8 * (i + 1) + ov_14))) (by rw [nI_clamp (by omega)]) ?_
      refine lv_aload_n hx hb dX8_on_94 rfl (lv_at hl 4 rfl) ?_
      refine va_get (D := D) (ci := 8) (v := .ref (a 19)) (C := RX8) (T := TX8) (N := 44) hx hb hts inX8 hown hK hP 0 rfl rfl 18 (by decide) (hts _ tw_991) (fun _ h9 => h9) rfl dX8_on_95 ?_
      refine lv_iload_n hx hb dX8_on_98 rfl (lv_at hl 6 rfl) ?_
      refine lv_iload_n hx hb dX8_on_99 rfl (lv_at hl 7 rfl) ?_
      refine lv_iconst (v := 1) hx hb dX8_on_100 (by decide) ?_
      refine lv_iadd hx hb dX8_on_101 ?_
      refine lv_ti (y := (nI (i + 1))) (nI_add i 1) ?_
      refine lv_iload hx hb dX8_on_102 (lv_at hl 1 rfl) ?_
      refine ro_i (D := D) (va_runS (As := [.int (nI rn), .int (nI (i + 1)), .int (nI (g / 2))]) (rest := [.ref (a 19), .int (fworths (192 * rn + 8 * (i + 1) + ov_14)), .int r_12]) ⟨hx, hb, hml, hown, hts⟩ ((m_at l D k st lo rn (i + 1) (g / 2)) H.size) (va_cwS 3 hts (gS tw_1266 tw_1267 tw_87 tw_1268) rfl rfl rfl (by decide +kernel) ⟨Nat.le_of_ble_eq_true rfl, Nat.le_of_ble_eq_true rfl⟩) (pS hS hAlo hlo hP hK hDL hZ [] (by decide) rfl) rfl rfl hl.1 rfl (lv_room (Nat.le_of_ble_eq_true rfl)) dX8_on_104 ⟨Nat.le_of_ble_eq_true rfl, Nat.le_of_ble_eq_true rfl⟩) hS hA hP (fun r_16 H locs hw_16 hP hS => ?_)
      try dsimp only at hw_16
      subst hw_16
      refine va_iald hx hb hK hP 4 1 rfl rfl (vp_in_nI (by omega) (by decide)) dX8_on_107 ?_
      refine lv_ti (y := (fworths (192 * rn + 8 * (i + 1) + (g / 2)))) (by rw [nI_clamp (by omega)]) ?_
      refine ro_i (D := D) (va_runS (As := [.int r_12, .int (fworths (192 * rn + 8 * (i + 1) + ov_14)), .int (fworths (192 * rn + 8 * (i + 1) + (g / 2)))]) (rest := []) ⟨hx, hb, hml, hown, hts⟩ ((m_mixed l D k st lo r_12 (fworths (192 * rn + 8 * (i + 1) + ov_14)) (fworths (192 * rn + 8 * (i + 1) + (g / 2)))) H.size) (va_cwS 3 hts (gS tw_1269 tw_1270 tw_87 tw_1271) rfl rfl rfl (by decide +kernel) ⟨Nat.le_of_ble_eq_true rfl, Nat.le_of_ble_eq_true rfl⟩) (pS hS hAlo hlo hP hK hDL hZ [] (by decide) rfl) rfl rfl hl.1 rfl (lv_room (Nat.le_of_ble_eq_true rfl)) dX8_on_108 ⟨Nat.le_of_ble_eq_true rfl, Nat.le_of_ble_eq_true rfl⟩) hS hA hP (fun r_17 H locs hw_17 hP hS => ?_)
      try dsimp only at hw_17
      exact W.iret (v := r_17) hx hb hr (fun t ht hW => ⟨⟨r_17, (), rfl, trivial, trivial⟩, hS.F ht⟩) hS.2.2 dX8_on_111
  · have c_2 : ¬ ((i + 1 + se sn) < (dn sn)) := fun h => c_2 ((nI_ltI (a := (i + 1 + se sn)) (b := (dn sn)) (by omega) (by omega)).mpr h)
    refine lv_aload_n hx hb dX8_on_33 rfl (lv_at hl 3 rfl) ?_
    refine va_get (D := D) (ci := 8) (v := .ref (a 19)) (C := RX8) (T := TX8) (N := 44) hx hb hts inX8 hown hK hP 0 rfl rfl 18 (by decide) (hts _ tw_991) (fun _ h9 => h9) rfl dX8_on_34 ?_
    refine lv_iload_n hx hb dX8_on_37 rfl (lv_at hl 5 rfl) ?_
    refine lv_iload_n hx hb dX8_on_38 rfl (lv_at hl 6 rfl) ?_
    refine lv_iconst (v := 1) hx hb dX8_on_39 (by decide) ?_
    refine lv_iadd hx hb dX8_on_40 ?_
    refine lv_ti (y := (nI (i + 1))) (nI_add i 1) ?_
    refine lv_iload hx hb dX8_on_41 (lv_at hl 0 rfl) ?_
    refine ro_i (D := D) (va_runS (As := [.int (nI rn), .int (nI (i + 1)), .int (nI (g / 2))]) (rest := [.ref (a 19)]) ⟨hx, hb, hml, hown, hts⟩ ((m_at l D k st lo rn (i + 1) (g / 2)) H.size) (va_cwS 3 hts (gS tw_1266 tw_1267 tw_87 tw_1268) rfl rfl rfl (by decide +kernel) ⟨Nat.le_of_ble_eq_true rfl, Nat.le_of_ble_eq_true rfl⟩) (pS hS hAlo hlo hP hK hDL hZ [] (by decide) rfl) rfl rfl hl.1 rfl (lv_room (Nat.le_of_ble_eq_true rfl)) dX8_on_43 ⟨Nat.le_of_ble_eq_true rfl, Nat.le_of_ble_eq_true rfl⟩) hS hA hP (fun r_18 H locs hw_18 hP hS => ?_)
    try dsimp only at hw_18
    subst hw_18
    refine va_iald hx hb hK hP 4 1 rfl rfl (vp_in_nI (by omega) (by decide)) dX8_on_46 ?_
    refine lv_ti (y := (fworths (192 * rn + 8 * (i + 1) + (g / 2)))) (by rw [nI_clamp (by omega)]) ?_
    exact W.iret (v := (fworths (192 * rn + 8 * (i + 1) + (g / 2)))) hx hb hr (fun t ht hW => ⟨⟨(fworths (192 * rn + 8 * (i + 1) + (g / 2))), (), rfl, trivial, trivial⟩, hS.F ht⟩) hS.2.2 dX8_on_47

theorem f_m_isSight_rows : True := trivial
theorem dX8_isSight_0 : decode cX8_isSight 0 = .ok (.iload_n 3, 1) := by decide +kernel
theorem dX8_isSight_1 : decode cX8_isSight 1 = .ok (.i2l, 1) := by decide +kernel
theorem dX8_isSight_2 : decode cX8_isSight 2 = .ok (.lconst 0, 1) := by decide +kernel
theorem dX8_isSight_3 : decode cX8_isSight 3 = .ok (.iconst 1, 1) := by decide +kernel
theorem dX8_isSight_4 : decode cX8_isSight 4 = .ok (.aload_n 0, 1) := by decide +kernel
theorem dX8_isSight_5 : decode cX8_isSight 5 = .ok (.iload_n 1, 1) := by decide +kernel
theorem dX8_isSight_6 : decode cX8_isSight 6 = .ok (.iload_n 2, 1) := by decide +kernel
theorem dX8_isSight_7 : decode cX8_isSight 7 = .ok (.invokevirtual 251, 3) := by decide +kernel
theorem dX8_isSight_10 : decode cX8_isSight 10 = .ok (.ishl, 1) := by decide +kernel
theorem dX8_isSight_11 : decode cX8_isSight 11 = .ok (.iconst 1, 1) := by decide +kernel
theorem dX8_isSight_12 : decode cX8_isSight 12 = .ok (.isub, 1) := by decide +kernel
theorem dX8_isSight_13 : decode cX8_isSight 13 = .ok (.i2l, 1) := by decide +kernel
theorem dX8_isSight_14 : decode cX8_isSight 14 = .ok (.invokestatic 107, 3) := by decide +kernel
theorem dX8_isSight_17 : decode cX8_isSight 17 = .ok (.ireturn, 1) := by decide +kernel
theorem dX8_isTaking_0 : decode cX8_isTaking 0 = .ok (.iload 4, 2) := by decide +kernel
theorem dX8_isTaking_2 : decode cX8_isTaking 2 = .ok (.iconst 1, 1) := by decide +kernel
theorem dX8_isTaking_3 : decode cX8_isTaking 3 = .ok (.iand, 1) := by decide +kernel
theorem dX8_isTaking_4 : decode cX8_isTaking 4 = .ok (.iconst 1, 1) := by decide +kernel
theorem dX8_isTaking_5 : decode cX8_isTaking 5 = .ok (.if_icmp .ne 29, 3) := by decide +kernel
theorem dX8_isTaking_8 : decode cX8_isTaking 8 = .ok (.aload_n 0, 1) := by decide +kernel
theorem dX8_isTaking_9 : decode cX8_isTaking 9 = .ok (.iload_n 1, 1) := by decide +kernel
theorem dX8_isTaking_10 : decode cX8_isTaking 10 = .ok (.iload_n 2, 1) := by decide +kernel
theorem dX8_isTaking_11 : decode cX8_isTaking 11 = .ok (.iload_n 3, 1) := by decide +kernel
theorem dX8_isTaking_12 : decode cX8_isTaking 12 = .ok (.invokevirtual 237, 3) := by decide +kernel
theorem dX8_isTaking_15 : decode cX8_isTaking 15 = .ok (.aload_n 0, 1) := by decide +kernel
theorem dX8_isTaking_16 : decode cX8_isTaking 16 = .ok (.getfield 38, 3) := by decide +kernel
theorem dX8_isTaking_19 : decode cX8_isTaking 19 = .ok (.iload_n 2, 1) := by decide +kernel
theorem dX8_isTaking_20 : decode cX8_isTaking 20 = .ok (.iload_n 3, 1) := by decide +kernel
theorem dX8_isTaking_21 : decode cX8_isTaking 21 = .ok (.iload 4, 2) := by decide +kernel
theorem dX8_isTaking_23 : decode cX8_isTaking 23 = .ok (.invokestatic 242, 3) := by decide +kernel
theorem dX8_isTaking_26 : decode cX8_isTaking 26 = .ok (.iaload, 1) := by decide +kernel
theorem dX8_isTaking_27 : decode cX8_isTaking 27 = .ok (.if_icmp .gt 7, 3) := by decide +kernel
theorem dX8_isTaking_30 : decode cX8_isTaking 30 = .ok (.iconst 1, 1) := by decide +kernel
theorem dX8_isTaking_31 : decode cX8_isTaking 31 = .ok (.goto 4, 3) := by decide +kernel
theorem dX8_isTaking_34 : decode cX8_isTaking 34 = .ok (.iconst 0, 1) := by decide +kernel
theorem dX8_isTaking_35 : decode cX8_isTaking 35 = .ok (.ireturn, 1) := by decide +kernel
set_option maxHeartbeats 4000000 in
set_option maxRecDepth 100000 in
theorem m_isTaking (l : Launch) (D : va_G) (k : Nat → ClassId) (st : Nat → Nat) (lo : Nat) (a : Nat → Nat) (tx : Nat) (t0 : Nat) (we : Nat) (rd : Nat) (ru : Nat) (rw : Nat) (ca : Nat) (fp : Int32) (wd : Int64) (nu : Int32) (na : Int32) (ts : Int32) (df : Int32) (db : Int32) (sd : Int32) (dn : Nat → Nat) (se : Nat → Nat) (tm : Nat → Nat) (gs : Nat → Int32) (fprices : Nat → Int32) (fons : Nat → Int32) (sn : Nat) (rn : Nat) (i : Nat) (g : Nat)  (hs : sn < 3) (hrn : rn ≤ 3) (hi : i < 24) (hg : g < 8) : CRi l D k st lo yX8_isTaking cX8_isTaking 5 (some .boolean) ({ frames := 4, cells := 0, slots := 0, locals := 93 }) [.ref (a 0), .int (nI sn), .int (nI rn), .int (nI i), .int (nI g)] [((a 0), .inr (8, (fX8 a (nI tx) fp (nI t0) wd (nI we) nu na (nI rd) ts (nI ru) (nI rw) (nI ca) df db sd))), (aI k (a 1) 3 (nF dn)), (aI k (a 4) 27 (sg se tm gs)), (aI k (a 3) 72 fprices), (aI k (a 18) 768 fons)] (fun r => r = 1 ∨ r = 0) := by
  intro sz
  refine Met.ofW (cc := cX8_isTaking) (maxL := 5) (ret := (some .boolean)) (by decide) rfl ?_
  intro p e s m args below meth c s₁ B hml hv
  obtain ⟨rfl, hsz, hlo, hP, hK, hDL, hZ⟩ := hv
  have hx := B.exec
  have hb := B.bytes
  have hr := B.returns
  have hts := WS_ts B.pre
  have hown : s.vm.findClass RX8 = some m.cls := findClass_of_methodNamed B.named
  have hlocks := B.notSynchronized
  subst hsz
  have hA : ∀ q : Nat, s.heap.size ≤ q → (fun q : Nat => s.heap.size ≤ q) q := fun _ h => h
  have hAlo : ∀ q : Nat, (fun q : Nat => s.heap.size ≤ q) q → lo ≤ q := fun q h => Nat.le_trans hlo h
  have hS : va_S (fun q : Nat => s.heap.size ≤ q) s.heap s.heap [] := va_S.rf
  have hl := lv_entry ([.ref (a 0), .int (nI sn), .int (nI rn), .int (nI i), .int (nI g)]) (n := 5) (Nat.le_of_ble_eq_true rfl)
  rw [lg_entry_eq]
  generalize (lg_sl ([.ref (a 0), .int (nI sn), .int (nI rn), .int (nI i), .int (nI g)]) ++ List.replicate (5 - (lg_sl ([.ref (a 0), .int (nI sn), .int (nI rn), .int (nI i), .int (nI g)])).length) Slot.unset).toArray = ls at hl ⊢
  have hl : lv_has ls 5 [(0, .ref (a 0)), (1, .int (nI sn)), (2, .int (nI rn)), (3, .int (nI i)), (4, .int (nI g))] := hl
  refine lv_iload hx hb dX8_isTaking_0 (lv_at hl 4 rfl) ?_
  refine lv_iconst (v := 1) hx hb dX8_isTaking_2 (by decide) ?_
  refine lv_iand hx hb dX8_isTaking_3 ?_
  refine lv_topi (fun x_1 ex_1 => ?_)
  refine lv_iconst (v := 1) hx hb dX8_isTaking_4 (by decide) ?_
  refine lv_icmp_ne (tgt := 34) hx hb dX8_isTaking_5 (by decide) (fun c_2 => ?_) (fun c_2 => ?_)
  · refine lv_iconst (v := 0) hx hb dX8_isTaking_34 (by decide) ?_
    exact W.zret (v := 0) (ty := .boolean) hx hb hr rfl (fun t ht hW => ⟨⟨0, (), rfl, .inr rfl, trivial⟩, hS.F ht⟩) hS.2.2 dX8_isTaking_35
  · refine lv_aload_n hx hb dX8_isTaking_8 rfl (lv_at hl 0 rfl) ?_
    refine lv_iload_n hx hb dX8_isTaking_9 rfl (lv_at hl 1 rfl) ?_
    refine lv_iload_n hx hb dX8_isTaking_10 rfl (lv_at hl 2 rfl) ?_
    refine lv_iload_n hx hb dX8_isTaking_11 rfl (lv_at hl 3 rfl) ?_
    refine ro_i (D := D) (va_runV (As := [.int (nI sn), .int (nI rn), .int (nI i)]) (rest := []) ⟨hx, hb, hml, hown, hts⟩ ((m_takingOf l D k st lo a tx t0 we rd ru rw ca fp wd nu na ts df db sd dn se tm gs fprices sn i (nI rn) (by omega) (by omega)) s.heap.size) (cwV 3 hts (gV tw_1222 tw_1224 tw_43 tw_87 tw_1225) rfl rfl rfl (by decide +kernel) ⟨Nat.le_of_ble_eq_true rfl, Nat.le_of_ble_eq_true rfl⟩) (pV hS hAlo hlo hP hK hDL hZ [0, 1, 2, 3] (by decide) rfl (ci := 8) (q := (RX8, TX8, 44)) (q0 := 0) rfl rfl) rfl rfl hl.1 rfl (lv_room (Nat.le_of_ble_eq_true rfl)) dX8_isTaking_12 ⟨Nat.le_of_ble_eq_true rfl, Nat.le_of_ble_eq_true rfl⟩) hS hA hP (fun r_3 H locs hw_3 hP hS => ?_)
    try dsimp only at hw_3
    refine lv_aload_n hx hb dX8_isTaking_15 rfl (lv_at hl 0 rfl) ?_
    refine va_get (D := D) (ci := 8) (v := .ref (a 18)) (C := RX8) (T := TX8) (N := 44) hx hb hts inX8 hown hK hP 0 rfl rfl 17 (by decide) (hts _ tw_990) (fun _ h9 => h9) rfl dX8_isTaking_16 ?_
    refine lv_iload_n hx hb dX8_isTaking_19 rfl (lv_at hl 2 rfl) ?_
    refine lv_iload_n hx hb dX8_isTaking_20 rfl (lv_at hl 3 rfl) ?_
    refine lv_iload hx hb dX8_isTaking_21 (lv_at hl 4 rfl) ?_
    refine ro_i (D := D) (va_runS (As := [.int (nI rn), .int (nI i), .int (nI g)]) (rest := [.ref (a 18), .int r_3]) ⟨hx, hb, hml, hown, hts⟩ ((m_at l D k st lo rn i g) H.size) (va_cwS 3 hts (gS tw_1266 tw_1267 tw_87 tw_1268) rfl rfl rfl (by decide +kernel) ⟨Nat.le_of_ble_eq_true rfl, Nat.le_of_ble_eq_true rfl⟩) (pS hS hAlo hlo hP hK hDL hZ [] (by decide) rfl) rfl rfl hl.1 rfl (lv_room (Nat.le_of_ble_eq_true rfl)) dX8_isTaking_23 ⟨Nat.le_of_ble_eq_true rfl, Nat.le_of_ble_eq_true rfl⟩) hS hA hP (fun r_4 H locs hw_4 hP hS => ?_)
    try dsimp only at hw_4
    subst hw_4
    refine va_iald hx hb hK hP 4 1 rfl rfl (vp_in_nI (by omega) (by decide)) dX8_isTaking_26 ?_
    refine lv_ti (y := (fons (192 * rn + 8 * i + g))) (by rw [nI_clamp (by omega)]) ?_
    refine lv_icmp_gt (tgt := 34) hx hb dX8_isTaking_27 (by decide) (fun c_5 => ?_) (fun c_5 => ?_)
    · refine lv_iconst (v := 0) hx hb dX8_isTaking_34 (by decide) ?_
      exact W.zret (v := 0) (ty := .boolean) hx hb hr rfl (fun t ht hW => ⟨⟨0, (), rfl, .inr rfl, trivial⟩, hS.F ht⟩) hS.2.2 dX8_isTaking_35
    · refine lv_iconst (v := 1) hx hb dX8_isTaking_30 (by decide) ?_
      refine lv_goto (tgt := 35) hx hb dX8_isTaking_31 (by decide) ?_
      exact W.zret (v := 1) (ty := .boolean) hx hb hr rfl (fun t ht hW => ⟨⟨1, (), rfl, .inl rfl, trivial⟩, hS.F ht⟩) hS.2.2 dX8_isTaking_35

theorem dX8_startOf_0 : decode cX8_startOf 0 = .ok (.aload_n 0, 1) := by decide +kernel
theorem dX8_startOf_1 : decode cX8_startOf 1 = .ok (.iload_n 1, 1) := by decide +kernel
theorem dX8_startOf_2 : decode cX8_startOf 2 = .ok (.iconst 0, 1) := by decide +kernel
theorem dX8_startOf_3 : decode cX8_startOf 3 = .ok (.invokevirtual 251, 3) := by decide +kernel
theorem dX8_startOf_6 : decode cX8_startOf 6 = .ok (.istore_n 3, 1) := by decide +kernel
theorem dX8_startOf_7 : decode cX8_startOf 7 = .ok (.iconst 0, 1) := by decide +kernel
theorem dX8_startOf_8 : decode cX8_startOf 8 = .ok (.istore 4, 2) := by decide +kernel
theorem dX8_startOf_10 : decode cX8_startOf 10 = .ok (.iload 4, 2) := by decide +kernel
theorem dX8_startOf_12 : decode cX8_startOf 12 = .ok (.iconst 1, 1) := by decide +kernel
theorem dX8_startOf_13 : decode cX8_startOf 13 = .ok (.iload_n 3, 1) := by decide +kernel
theorem dX8_startOf_14 : decode cX8_startOf 14 = .ok (.ishl, 1) := by decide +kernel
theorem dX8_startOf_15 : decode cX8_startOf 15 = .ok (.if_icmp .ge 28, 3) := by decide +kernel
theorem dX8_startOf_18 : decode cX8_startOf 18 = .ok (.aload_n 0, 1) := by decide +kernel
theorem dX8_startOf_19 : decode cX8_startOf 19 = .ok (.getfield 54, 3) := by decide +kernel
theorem dX8_startOf_22 : decode cX8_startOf 22 = .ok (.iload 4, 2) := by decide +kernel
theorem dX8_startOf_24 : decode cX8_startOf 24 = .ok (.aload_n 0, 1) := by decide +kernel
theorem dX8_startOf_25 : decode cX8_startOf 25 = .ok (.getfield 41, 3) := by decide +kernel
theorem dX8_startOf_28 : decode cX8_startOf 28 = .ok (.iload_n 2, 1) := by decide +kernel
theorem dX8_startOf_29 : decode cX8_startOf 29 = .ok (.iconst 0, 1) := by decide +kernel
theorem dX8_startOf_30 : decode cX8_startOf 30 = .ok (.iload 4, 2) := by decide +kernel
theorem dX8_startOf_32 : decode cX8_startOf 32 = .ok (.invokestatic 242, 3) := by decide +kernel
theorem dX8_startOf_35 : decode cX8_startOf 35 = .ok (.iaload, 1) := by decide +kernel
theorem dX8_startOf_36 : decode cX8_startOf 36 = .ok (.iastore, 1) := by decide +kernel
theorem dX8_startOf_37 : decode cX8_startOf 37 = .ok (.iinc 4 1, 3) := by decide +kernel
theorem dX8_startOf_40 : decode cX8_startOf 40 = .ok (.goto (-30), 3) := by decide +kernel
theorem dX8_startOf_43 : decode cX8_startOf 43 = .ok (.iload_n 3, 1) := by decide +kernel
theorem dX8_startOf_44 : decode cX8_startOf 44 = .ok (.iconst 1, 1) := by decide +kernel
theorem dX8_startOf_45 : decode cX8_startOf 45 = .ok (.isub, 1) := by decide +kernel
theorem dX8_startOf_46 : decode cX8_startOf 46 = .ok (.istore 4, 2) := by decide +kernel
theorem dX8_startOf_48 : decode cX8_startOf 48 = .ok (.iload 4, 2) := by decide +kernel
theorem dX8_startOf_50 : decode cX8_startOf 50 = .ok (.ifCond .lt 90, 3) := by decide +kernel
theorem dX8_startOf_53 : decode cX8_startOf 53 = .ok (.iconst 0, 1) := by decide +kernel
theorem dX8_startOf_54 : decode cX8_startOf 54 = .ok (.istore 5, 2) := by decide +kernel
theorem dX8_startOf_56 : decode cX8_startOf 56 = .ok (.iload 5, 2) := by decide +kernel
theorem dX8_startOf_58 : decode cX8_startOf 58 = .ok (.iconst 1, 1) := by decide +kernel
theorem dX8_startOf_59 : decode cX8_startOf 59 = .ok (.iload 4, 2) := by decide +kernel
theorem dX8_startOf_61 : decode cX8_startOf 61 = .ok (.ishl, 1) := by decide +kernel
theorem dX8_startOf_62 : decode cX8_startOf 62 = .ok (.if_icmp .ge 72, 3) := by decide +kernel
theorem dX8_startOf_65 : decode cX8_startOf 65 = .ok (.iload 4, 2) := by decide +kernel
theorem dX8_startOf_67 : decode cX8_startOf 67 = .ok (.ifCond .le 20, 3) := by decide +kernel
theorem dX8_startOf_70 : decode cX8_startOf 70 = .ok (.iload 5, 2) := by decide +kernel
theorem dX8_startOf_72 : decode cX8_startOf 72 = .ok (.iload 4, 2) := by decide +kernel
theorem dX8_startOf_74 : decode cX8_startOf 74 = .ok (.iconst 1, 1) := by decide +kernel
theorem dX8_startOf_75 : decode cX8_startOf 75 = .ok (.isub, 1) := by decide +kernel
theorem dX8_startOf_76 : decode cX8_startOf 76 = .ok (.ishr, 1) := by decide +kernel
theorem dX8_startOf_77 : decode cX8_startOf 77 = .ok (.iconst 1, 1) := by decide +kernel
theorem dX8_startOf_78 : decode cX8_startOf 78 = .ok (.iand, 1) := by decide +kernel
theorem dX8_startOf_79 : decode cX8_startOf 79 = .ok (.iconst 1, 1) := by decide +kernel
theorem dX8_startOf_80 : decode cX8_startOf 80 = .ok (.if_icmp .ne 7, 3) := by decide +kernel
theorem dX8_startOf_83 : decode cX8_startOf 83 = .ok (.iconst 1, 1) := by decide +kernel
theorem dX8_startOf_84 : decode cX8_startOf 84 = .ok (.goto 4, 3) := by decide +kernel
theorem dX8_startOf_87 : decode cX8_startOf 87 = .ok (.iconst 0, 1) := by decide +kernel
theorem dX8_startOf_88 : decode cX8_startOf 88 = .ok (.istore 6, 2) := by decide +kernel
theorem dX8_startOf_90 : decode cX8_startOf 90 = .ok (.aload_n 0, 1) := by decide +kernel
theorem dX8_startOf_91 : decode cX8_startOf 91 = .ok (.getfield 54, 3) := by decide +kernel
theorem dX8_startOf_94 : decode cX8_startOf 94 = .ok (.iload 5, 2) := by decide +kernel
theorem dX8_startOf_96 : decode cX8_startOf 96 = .ok (.aload_n 0, 1) := by decide +kernel
theorem dX8_startOf_97 : decode cX8_startOf 97 = .ok (.iload_n 1, 1) := by decide +kernel
theorem dX8_startOf_98 : decode cX8_startOf 98 = .ok (.iload 4, 2) := by decide +kernel
theorem dX8_startOf_100 : decode cX8_startOf 100 = .ok (.iload 6, 2) := by decide +kernel
theorem dX8_startOf_102 : decode cX8_startOf 102 = .ok (.invokevirtual 219, 3) := by decide +kernel
theorem dX8_startOf_105 : decode cX8_startOf 105 = .ok (.aload_n 0, 1) := by decide +kernel
theorem dX8_startOf_106 : decode cX8_startOf 106 = .ok (.getfield 54, 3) := by decide +kernel
theorem dX8_startOf_109 : decode cX8_startOf 109 = .ok (.iload 5, 2) := by decide +kernel
theorem dX8_startOf_111 : decode cX8_startOf 111 = .ok (.iconst 1, 1) := by decide +kernel
theorem dX8_startOf_112 : decode cX8_startOf 112 = .ok (.iload 4, 2) := by decide +kernel
theorem dX8_startOf_114 : decode cX8_startOf 114 = .ok (.ishl, 1) := by decide +kernel
theorem dX8_startOf_115 : decode cX8_startOf 115 = .ok (.ior, 1) := by decide +kernel
theorem dX8_startOf_116 : decode cX8_startOf 116 = .ok (.iaload, 1) := by decide +kernel
theorem dX8_startOf_117 : decode cX8_startOf 117 = .ok (.aload_n 0, 1) := by decide +kernel
theorem dX8_startOf_118 : decode cX8_startOf 118 = .ok (.getfield 54, 3) := by decide +kernel
theorem dX8_startOf_121 : decode cX8_startOf 121 = .ok (.iload 5, 2) := by decide +kernel
theorem dX8_startOf_123 : decode cX8_startOf 123 = .ok (.iaload, 1) := by decide +kernel
theorem dX8_startOf_124 : decode cX8_startOf 124 = .ok (.invokestatic 245, 3) := by decide +kernel
theorem dX8_startOf_127 : decode cX8_startOf 127 = .ok (.iastore, 1) := by decide +kernel
theorem dX8_startOf_128 : decode cX8_startOf 128 = .ok (.iinc 5 1, 3) := by decide +kernel
theorem dX8_startOf_131 : decode cX8_startOf 131 = .ok (.goto (-75), 3) := by decide +kernel
theorem dX8_startOf_134 : decode cX8_startOf 134 = .ok (.iinc 4 (-1), 3) := by decide +kernel
theorem dX8_startOf_137 : decode cX8_startOf 137 = .ok (.goto (-89), 3) := by decide +kernel
theorem dX8_startOf_140 : decode cX8_startOf 140 = .ok (.aload_n 0, 1) := by decide +kernel
theorem dX8_startOf_141 : decode cX8_startOf 141 = .ok (.getfield 54, 3) := by decide +kernel
theorem dX8_startOf_144 : decode cX8_startOf 144 = .ok (.iconst 0, 1) := by decide +kernel
theorem dX8_startOf_145 : decode cX8_startOf 145 = .ok (.iaload, 1) := by decide +kernel
theorem dX8_startOf_146 : decode cX8_startOf 146 = .ok (.ireturn, 1) := by decide +kernel
set_option maxHeartbeats 4000000 in
set_option maxRecDepth 100000 in
theorem m_startOf (l : Launch) (D : va_G) (k : Nat → ClassId) (st : Nat → Nat) (lo : Nat) (a : Nat → Nat) (tx : Nat) (t0 : Nat) (we : Nat) (rd : Nat) (ru : Nat) (rw : Nat) (ca : Nat) (fp : Int32) (wd : Int64) (nu : Int32) (na : Int32) (ts : Int32) (df : Int32) (db : Int32) (sd : Int32) (dn : Nat → Nat) (se : Nat → Nat) (tm : Nat → Nat) (gs : Nat → Int32) (ffrees : Nat → Int32) (fworths : Nat → Int32) (fbegin : Nat → Int32) (sn : Nat) (rn : Nat) (hdn : ∀ j, dn j ≤ 24) (hse : ∀ j, se j ≤ 2) (hs : sn < 3) (hrn : rn ≤ 3) (h0 : 0 < dn sn) : CWi l D k st lo yX8_startOf cX8_startOf 7 (some .int) ({ frames := 2, cells := 0, slots := 0, locals := 47 }) 0 0 [.ref (a 0), .int (nI sn), .int (nI rn)] [((a 0), .inr (8, (fX8 a (nI tx) fp (nI t0) wd (nI we) nu na (nI rd) ts (nI ru) (nI rw) (nI ca) df db sd))), (aI k (a 1) 3 (nF dn)), (aI k (a 4) 27 (sg se tm gs)), (aI k (a 2) 72 ffrees), (aI k (a 19) 768 fworths), (aI k (a 23) 8 fbegin)] (fun (r : Int32) (fbegin_ : (Nat → Int32)) => True) (fun (fbegin_ : (Nat → Int32)) => [((a 0), .inr (8, (fX8 a (nI tx) fp (nI t0) wd (nI we) nu na (nI rd) ts (nI ru) (nI rw) (nI ca) df db sd))), (aI k (a 1) 3 (nF dn)), (aI k (a 4) 27 (sg se tm gs)), (aI k (a 2) 72 ffrees), (aI k (a 19) 768 fworths), (aI k (a 23) 8 fbegin_)]) := by
  intro sz
  refine Met.ofW (cc := cX8_startOf) (maxL := 7) (ret := (some .int)) (by decide) rfl ?_
  intro p e s m args below meth c s₁ B hml hv
  obtain ⟨rfl, hsz, hlo, hP, hK, hDL, hZ⟩ := hv
  have hx := B.exec
  have hb := B.bytes
  have hr := B.returns
  have hts := WS_ts B.pre
  have hown : s.vm.findClass RX8 = some m.cls := findClass_of_methodNamed B.named
  have hlocks := B.notSynchronized
  subst hsz
  have hD := hDL.self (sz := s.heap.size)
  have hAlo := A_lo hDL hlo
  generalize hAe : va_A [((a 0), .inr (8, (fX8 a (nI tx) fp (nI t0) wd (nI we) nu na (nI rd) ts (nI ru) (nI rw) (nI ca) df db sd))), (aI k (a 1) 3 (nF dn)), (aI k (a 4) 27 (sg se tm gs)), (aI k (a 2) 72 ffrees), (aI k (a 19) 768 fworths), (aI k (a 23) 8 fbegin)] s.heap.size = A at hD hAlo ⊢
  have hA : ∀ q : Nat, s.heap.size ≤ q → A q := fun q h => by rw [← hAe]; exact Or.inr h
  have hS : va_S A s.heap s.heap [] := va_S.rf
  have hl := lv_entry ([.ref (a 0), .int (nI sn), .int (nI rn)]) (n := 7) (Nat.le_of_ble_eq_true rfl)
  rw [lg_entry_eq]
  generalize (lg_sl ([.ref (a 0), .int (nI sn), .int (nI rn)]) ++ List.replicate (7 - (lg_sl ([.ref (a 0), .int (nI sn), .int (nI rn)])).length) Slot.unset).toArray = ls at hl ⊢
  have hl : lv_has ls 7 [(0, .ref (a 0)), (1, .int (nI sn)), (2, .int (nI rn))] := hl
  have hd_9 := hdn sn
  have hd_8 := hse sn
  refine lv_aload_n hx hb dX8_startOf_0 rfl (lv_at hl 0 rfl) ?_
  refine lv_iload_n hx hb dX8_startOf_1 rfl (lv_at hl 1 rfl) ?_
  refine lv_iconst (v := 0) hx hb dX8_startOf_2 (by decide) ?_
  refine ro_i (D := D) (va_runV (As := [.int (nI sn), .int 0]) (rest := []) ⟨hx, hb, hml, hown, hts⟩ ((m_seen l D k st lo a tx t0 we rd ru rw ca fp wd nu na ts df db sd dn se tm gs sn 0 hdn hse (by omega) (by omega)) s.heap.size) (cwV 2 hts (gV tw_1246 tw_1248 tw_48 tw_87 tw_1249) rfl rfl rfl (by decide +kernel) ⟨Nat.le_of_ble_eq_true rfl, Nat.le_of_ble_eq_true rfl⟩) (pV hS hAlo hlo hP hK (va_Dlo hD hAlo) hZ [0, 1, 2] (by decide) rfl (ci := 8) (q := (RX8, TX8, 44)) (q0 := 0) rfl rfl) rfl rfl hl.1 rfl (lv_room (Nat.le_of_ble_eq_true rfl)) dX8_startOf_3 ⟨Nat.le_of_ble_eq_true rfl, Nat.le_of_ble_eq_true rfl⟩) hS hA hP (fun r_1 H locs hw_1 hP hS => ?_)
  try dsimp only at hw_1
  obtain ⟨sv_2, esv_2⟩ : ∃ z : Nat, z = (if dn sn - 0 < se sn + 1 then dn sn - 0 else se sn + 1) := ⟨_, rfl⟩
  rw [← esv_2] at hw_1
  subst hw_1
  have hsv_2 : sv_2 ≤ 3 ∧ sv_2 ≤ dn sn - 0 ∧ (0 < dn sn - 0 → 1 ≤ sv_2) := by
    have hse9 := hse sn
    split at esv_2 <;> omega
  refine lv_istore_n (lv' := [(3, .int (nI sv_2)), (0, .ref (a 0)), (1, .int (nI sn)), (2, .int (nI rn))]) hx hb dX8_startOf_6 rfl hl (by decide) rfl (fun ls hl => ?_)
  refine lv_iconst (v := 0) hx hb dX8_startOf_7 (by decide) ?_
  refine lv_istore (lv' := [(4, .int 0), (3, .int (nI sv_2)), (0, .ref (a 0)), (1, .int (nI sn)), (2, .int (nI rn))]) hx hb dX8_startOf_8 hl (by decide) rfl (fun ls hl => ?_)
  refine W_loop (σ := Nat × (Nat → Int32)) (fun (n_ : Nat) (x_ : Nat × (Nat → Int32)) (H : Heap) (locs : List Loc) (ls : Array Slot) => match x_ with | (g_3, fb_3) => n_ = 8 - g_3 ∧ (g_3 ≤ 8) ∧ va_P D classes [((a 0), .inr (8, (fX8 a (nI tx) fp (nI t0) wd (nI we) nu na (nI rd) ts (nI ru) (nI rw) (nI ca) df db sd))), (aI k (a 1) 3 (nF dn)), (aI k (a 4) 27 (sg se tm gs)), (aI k (a 2) 72 ffrees), (aI k (a 19) 768 fworths), (aI k (a 23) 8 fb_3)] H ∧ va_D A [((a 0), .inr (8, (fX8 a (nI tx) fp (nI t0) wd (nI we) nu na (nI rd) ts (nI ru) (nI rw) (nI ca) df db sd))), (aI k (a 1) 3 (nF dn)), (aI k (a 4) 27 (sg se tm gs)), (aI k (a 2) 72 ffrees), (aI k (a 19) 768 fworths), (aI k (a 23) 8 fb_3)] ∧ va_S A s.heap H locs ∧ lv_has ls 7 [(4, .int (nI g_3)), (3, .int (nI sv_2)), (0, .ref (a 0)), (1, .int (nI sn)), (2, .int (nI rn))]) (fun n_3 x_3 H locs ls hI ih_3 => ?_) _ (0, fbegin) ⟨rfl, (by omega), hP, hD, hS, (lv_sub hl [0, 1, 2, 3, 4] rfl)⟩
  obtain ⟨g_3, fb_3⟩ := x_3
  obtain ⟨hm_3, hv_3, hP, hD, hS, hl⟩ := hI
  subst hm_3
  refine lv_iload hx hb dX8_startOf_10 (lv_at hl 0 rfl) ?_
  refine lv_iconst (v := 1) hx hb dX8_startOf_12 (by decide) ?_
  refine lv_iload_n hx hb dX8_startOf_13 rfl (lv_at hl 1 rfl) ?_
  obtain ⟨pw_4, epw_4⟩ : ∃ z : Nat, z = 2 ^ sv_2 := ⟨_, rfl⟩
  have hpw_4 : 1 ≤ pw_4 ∧ pw_4 ≤ 8 := by rw [epw_4]; exact pw8 (by omega)
  refine lv_ishl hx hb dX8_startOf_14 ?_
  refine lv_ti (y := (nI pw_4)) (by rw [epw_4]; exact shl1 sv_2 (by omega)) ?_
  refine lv_icmp_ge (tgt := 43) hx hb dX8_startOf_15 (by decide) (fun c_5 => ?_) (fun c_5 => ?_)
  · have c_5 := (nI_leI (a := pw_4) (b := g_3) (by omega) (by omega)).mp c_5
    refine lv_iload_n hx hb dX8_startOf_43 rfl (lv_at hl 1 rfl) ?_
    refine lv_iconst (v := 1) hx hb dX8_startOf_44 (by decide) ?_
    refine lv_isub hx hb dX8_startOf_45 ?_
    refine lv_ti (y := (nI sv_2 - 1)) rfl ?_
    refine lv_istore (lv' := [(4, .int (nI sv_2 - 1)), (3, .int (nI sv_2)), (0, .ref (a 0)), (1, .int (nI sn)), (2, .int (nI rn))]) hx hb dX8_startOf_46 hl (by decide) rfl (fun ls hl => ?_)
    refine W_loop (σ := Nat × (Nat → Int32)) (fun (n_ : Nat) (x_ : Nat × (Nat → Int32)) (H : Heap) (locs : List Loc) (ls : Array Slot) => match x_ with | (q_6, fb_6) => n_ = 2 * q_6 ∧ (q_6 ≤ 3 ∧ q_6 ≤ dn sn) ∧ va_P D classes [((a 0), .inr (8, (fX8 a (nI tx) fp (nI t0) wd (nI we) nu na (nI rd) ts (nI ru) (nI rw) (nI ca) df db sd))), (aI k (a 1) 3 (nF dn)), (aI k (a 4) 27 (sg se tm gs)), (aI k (a 2) 72 ffrees), (aI k (a 19) 768 fworths), (aI k (a 23) 8 fb_6)] H ∧ va_D A [((a 0), .inr (8, (fX8 a (nI tx) fp (nI t0) wd (nI we) nu na (nI rd) ts (nI ru) (nI rw) (nI ca) df db sd))), (aI k (a 1) 3 (nF dn)), (aI k (a 4) 27 (sg se tm gs)), (aI k (a 2) 72 ffrees), (aI k (a 19) 768 fworths), (aI k (a 23) 8 fb_6)] ∧ va_S A s.heap H locs ∧ lv_has ls 7 [(4, .int (nI q_6 - 1)), (3, .int (nI sv_2)), (0, .ref (a 0)), (1, .int (nI sn)), (2, .int (nI rn))]) (fun n_6 x_6 H locs ls hI ih_6 => ?_) _ (sv_2, fb_3) ⟨rfl, ⟨by omega, by omega⟩, hP, hD, hS, (lv_sub hl [0, 1, 2, 3, 4] rfl)⟩
    obtain ⟨q_6, fb_6⟩ := x_6
    obtain ⟨hm_6, hv_6, hP, hD, hS, hl⟩ := hI
    subst hm_6
    rcases q_6 with _ | q_6
    · rw [dn0] at hl
      refine lv_iload hx hb dX8_startOf_48 (lv_at hl 0 rfl) ?_
      refine lv_if_lt (tgt := 140) hx hb dX8_startOf_50 (by decide) (fun _ => ?_) (fun h => absurd (by decide) h)
      refine lv_aload_n hx hb dX8_startOf_140 rfl (lv_at hl 2 rfl) ?_
      refine va_get (D := D) (ci := 8) (v := .ref (a 23)) (C := RX8) (T := TX8) (N := 44) hx hb hts inX8 hown hK hP 0 rfl rfl 22 (by decide) (hts _ tw_995) (fun _ h9 => h9) rfl dX8_startOf_141 ?_
      refine lv_iconst (v := 0) hx hb dX8_startOf_144 (by decide) ?_
      refine va_iald hx hb hK hP 5 1 rfl rfl (by unfold vp_in; decide) dX8_startOf_145 ?_
      refine lv_ti (y := (fb_6 0)) (by rfl) ?_
      have hP9 := hP.sub (ws' := [((a 0), .inr (8, (fX8 a (nI tx) fp (nI t0) wd (nI we) nu na (nI rd) ts (nI ru) (nI rw) (nI ca) df db sd))), (aI k (a 1) 3 (nF dn)), (aI k (a 4) 27 (sg se tm gs)), (aI k (a 2) 72 ffrees), (aI k (a 19) 768 fworths), (aI k (a 23) 8 fb_6)]) [0, 1, 2, 3, 4, 5] rfl
      have hD9 := hD.sub (ws' := [((a 0), .inr (8, (fX8 a (nI tx) fp (nI t0) wd (nI we) nu na (nI rd) ts (nI ru) (nI rw) (nI ca) df db sd))), (aI k (a 1) 3 (nF dn)), (aI k (a 4) 27 (sg se tm gs)), (aI k (a 2) 72 ffrees), (aI k (a 19) 768 fworths), (aI k (a 23) 8 fb_6)]) [0, 1, 2, 3, 4, 5] (by decide) rfl
      exact W.iret (v := (fb_6 0)) hx hb hr (fun t ht hW => ⟨⟨(fb_6 0), fb_6, rfl, trivial, by rw [ht]; exact hP9, hD9⟩, hS.F ht⟩) hS.2.2 dX8_startOf_146
    · rw [nI_pred] at hl
      refine lv_iload hx hb dX8_startOf_48 (lv_at hl 0 rfl) ?_
      refine lv_if_lt (tgt := 140) hx hb dX8_startOf_50 (by decide) (fun h => absurd h (nI_pos0 (by omega))) (fun _ => ?_)
      refine lv_iconst (v := 0) hx hb dX8_startOf_53 (by decide) ?_
      refine lv_istore (lv' := [(5, .int 0), (4, .int (nI q_6)), (3, .int (nI sv_2)), (0, .ref (a 0)), (1, .int (nI sn)), (2, .int (nI rn))]) hx hb dX8_startOf_54 hl (by decide) rfl (fun ls hl => ?_)
      refine W_loop (σ := Nat × (Nat → Int32)) (fun (n_ : Nat) (x_ : Nat × (Nat → Int32)) (H : Heap) (locs : List Loc) (ls : Array Slot) => match x_ with | (g_7, fb_7) => n_ = 8 - g_7 ∧ (g_7 ≤ 8) ∧ va_P D classes [((a 0), .inr (8, (fX8 a (nI tx) fp (nI t0) wd (nI we) nu na (nI rd) ts (nI ru) (nI rw) (nI ca) df db sd))), (aI k (a 1) 3 (nF dn)), (aI k (a 4) 27 (sg se tm gs)), (aI k (a 2) 72 ffrees), (aI k (a 19) 768 fworths), (aI k (a 23) 8 fb_7)] H ∧ va_D A [((a 0), .inr (8, (fX8 a (nI tx) fp (nI t0) wd (nI we) nu na (nI rd) ts (nI ru) (nI rw) (nI ca) df db sd))), (aI k (a 1) 3 (nF dn)), (aI k (a 4) 27 (sg se tm gs)), (aI k (a 2) 72 ffrees), (aI k (a 19) 768 fworths), (aI k (a 23) 8 fb_7)] ∧ va_S A s.heap H locs ∧ lv_has ls 7 [(5, .int (nI g_7)), (4, .int (nI q_6)), (3, .int (nI sv_2)), (0, .ref (a 0)), (1, .int (nI sn)), (2, .int (nI rn))]) (fun n_7 x_7 H locs ls hI ih_7 => ?_) _ (0, fb_6) ⟨rfl, (by omega), hP, hD, hS, (lv_sub hl [0, 1, 2, 3, 4, 5] rfl)⟩
      obtain ⟨g_7, fb_7⟩ := x_7
      obtain ⟨hm_7, hv_7, hP, hD, hS, hl⟩ := hI
      subst hm_7
      refine lv_iload hx hb dX8_startOf_56 (lv_at hl 0 rfl) ?_
      refine lv_iconst (v := 1) hx hb dX8_startOf_58 (by decide) ?_
      refine lv_iload hx hb dX8_startOf_59 (lv_at hl 1 rfl) ?_
      obtain ⟨pw_8, epw_8⟩ : ∃ z : Nat, z = 2 ^ q_6 := ⟨_, rfl⟩
      have hpw_8 : 1 ≤ pw_8 ∧ pw_8 ≤ 4 := by rw [epw_8]; exact pw4 (by omega)
      refine lv_ishl hx hb dX8_startOf_61 ?_
      refine lv_ti (y := (nI pw_8)) (by rw [epw_8]; exact shl1 q_6 (by omega)) ?_
      refine lv_icmp_ge (tgt := 134) hx hb dX8_startOf_62 (by decide) (fun c_9 => ?_) (fun c_9 => ?_)
      · have c_9 := (nI_leI (a := pw_8) (b := g_7) (by omega) (by omega)).mp c_9
        refine lv_iinc (v := (nI q_6 - 1)) (lv' := [(4, .int (nI q_6 - 1)), (5, .int (nI g_7)), (3, .int (nI sv_2)), (0, .ref (a 0)), (1, .int (nI sn)), (2, .int (nI rn))]) hx hb dX8_startOf_134 hl (k := 1) rfl (dn1 _) (by decide) rfl (fun ls hl => ?_)
        refine lv_goto (tgt := 48) hx hb dX8_startOf_137 (by decide) ?_
        exact ih_6 _ (q_6, fb_7) _ _ _ (by omega) ⟨rfl, ⟨by omega, by omega⟩, hP, hD, hS, (lv_sub hl [0, 2, 3, 4, 5] rfl)⟩
      · have c_9 : ¬ (pw_8 ≤ g_7) := fun h => c_9 ((nI_leI (a := pw_8) (b := g_7) (by omega) (by omega)).mpr h)
        refine lv_iload hx hb dX8_startOf_65 (lv_at hl 1 rfl) ?_
        refine lv_if_le (tgt := 87) hx hb dX8_startOf_67 (by decide) (fun c_10 => ?_) (fun c_10 => ?_)
        · have c_10 := (nI_leI (a := q_6) (b := 0) (by omega) (by omega)).mp c_10
          refine lv_iconst (v := 0) hx hb dX8_startOf_87 (by decide) ?_
          refine lv_istore (lv' := [(6, .int 0), (5, .int (nI g_7)), (4, .int (nI q_6)), (3, .int (nI sv_2)), (0, .ref (a 0)), (1, .int (nI sn)), (2, .int (nI rn))]) hx hb dX8_startOf_88 hl (by decide) rfl (fun ls hl => ?_)
          refine lv_aload_n hx hb dX8_startOf_90 rfl (lv_at hl 4 rfl) ?_
          refine va_get (D := D) (ci := 8) (v := .ref (a 23)) (C := RX8) (T := TX8) (N := 44) hx hb hts inX8 hown hK hP 0 rfl rfl 22 (by decide) (hts _ tw_995) (fun _ h9 => h9) rfl dX8_startOf_91 ?_
          refine lv_iload hx hb dX8_startOf_94 (lv_at hl 1 rfl) ?_
          refine lv_aload_n hx hb dX8_startOf_96 rfl (lv_at hl 4 rfl) ?_
          refine lv_iload_n hx hb dX8_startOf_97 rfl (lv_at hl 5 rfl) ?_
          refine lv_iload hx hb dX8_startOf_98 (lv_at hl 2 rfl) ?_
          refine lv_iload hx hb dX8_startOf_100 (lv_at hl 0 rfl) ?_
          refine ro_i (D := D) (va_runV (As := [.int (nI sn), .int (nI q_6), .int 0]) (rest := [.int (nI g_7), .ref (a 23)]) ⟨hx, hb, hml, hown, hts⟩ ((m_chanceOf l D k st lo a tx t0 we rd ru rw ca fp wd nu na ts df db sd ffrees se tm gs sn q_6 0 (by omega) (by omega)) H.size) (cwV 3 hts (gV tw_1210 tw_1212 tw_41 tw_87 tw_1213) rfl rfl rfl (by decide +kernel) ⟨Nat.le_of_ble_eq_true rfl, Nat.le_of_ble_eq_true rfl⟩) (pV hS hAlo hlo hP hK (va_Dlo hD hAlo) hZ [0, 3, 2] (by decide) rfl (ci := 8) (q := (RX8, TX8, 44)) (q0 := 0) rfl rfl) rfl rfl hl.1 rfl (lv_room (Nat.le_of_ble_eq_true rfl)) dX8_startOf_102 ⟨Nat.le_of_ble_eq_true rfl, Nat.le_of_ble_eq_true rfl⟩) hS hA hP (fun r_11 H locs hw_11 hP hS => ?_)
          try dsimp only at hw_11
          refine lv_aload_n hx hb dX8_startOf_105 rfl (lv_at hl 4 rfl) ?_
          refine va_get (D := D) (ci := 8) (v := .ref (a 23)) (C := RX8) (T := TX8) (N := 44) hx hb hts inX8 hown hK hP 0 rfl rfl 22 (by decide) (hts _ tw_995) (fun _ h9 => h9) rfl dX8_startOf_106 ?_
          refine lv_iload hx hb dX8_startOf_109 (lv_at hl 1 rfl) ?_
          refine lv_iconst (v := 1) hx hb dX8_startOf_111 (by decide) ?_
          refine lv_iload hx hb dX8_startOf_112 (lv_at hl 2 rfl) ?_
          obtain ⟨pw_12, epw_12⟩ : ∃ z : Nat, z = 2 ^ q_6 := ⟨_, rfl⟩
          have hpw_12 : 1 ≤ pw_12 ∧ pw_12 ≤ 4 := by rw [epw_12]; exact pw4 (by omega)
          refine lv_ishl hx hb dX8_startOf_114 ?_
          refine lv_ti (y := (nI pw_12)) (by rw [epw_12]; exact shl1 q_6 (by omega)) ?_
          obtain ⟨ov_13, hov_13, eov_13⟩ := or8 g_7 (by omega) pw_12 (by omega)
          refine lv_ior hx hb dX8_startOf_115 ?_
          refine lv_ti (y := (nI ov_13)) eov_13 ?_
          refine va_iald hx hb hK hP 5 1 rfl rfl (vp_in_nI (by omega) (by decide)) dX8_startOf_116 ?_
          refine lv_ti (y := (fb_7 ov_13)) (by rw [nI_clamp (by omega)]) ?_
          refine lv_aload_n hx hb dX8_startOf_117 rfl (lv_at hl 4 rfl) ?_
          refine va_get (D := D) (ci := 8) (v := .ref (a 23)) (C := RX8) (T := TX8) (N := 44) hx hb hts inX8 hown hK hP 0 rfl rfl 22 (by decide) (hts _ tw_995) (fun _ h9 => h9) rfl dX8_startOf_118 ?_
          refine lv_iload hx hb dX8_startOf_121 (lv_at hl 1 rfl) ?_
          refine va_iald hx hb hK hP 5 1 rfl rfl (vp_in_nI (by omega) (by decide)) dX8_startOf_123 ?_
          refine lv_ti (y := (fb_7 g_7)) (by rw [nI_clamp (by omega)]) ?_
          refine ro_i (D := D) (va_runS (As := [.int r_11, .int (fb_7 ov_13), .int (fb_7 g_7)]) (rest := [.int (nI g_7), .ref (a 23)]) ⟨hx, hb, hml, hown, hts⟩ ((m_mixed l D k st lo r_11 (fb_7 ov_13) (fb_7 g_7)) H.size) (va_cwS 3 hts (gS tw_1269 tw_1270 tw_87 tw_1271) rfl rfl rfl (by decide +kernel) ⟨Nat.le_of_ble_eq_true rfl, Nat.le_of_ble_eq_true rfl⟩) (pS hS hAlo hlo hP hK (va_Dlo hD hAlo) hZ [] (by decide) rfl) rfl rfl hl.1 rfl (lv_room (Nat.le_of_ble_eq_true rfl)) dX8_startOf_124 ⟨Nat.le_of_ble_eq_true rfl, Nat.le_of_ble_eq_true rfl⟩) hS hA hP (fun r_14 H locs hw_14 hP hS => ?_)
          try dsimp only at hw_14
          refine va_iast hx hb hK hP hD hS 5 1 rfl rfl (vp_in_nI (by omega) (by decide)) dX8_startOf_127 (fun H locs hP hD hS => ?_)
          replace hP : va_P D classes [((a 0), .inr (8, (fX8 a (nI tx) fp (nI t0) wd (nI we) nu na (nI rd) ts (nI ru) (nI rw) (nI ca) df db sd))), (aI k (a 1) 3 (nF dn)), (aI k (a 4) 27 (sg se tm gs)), (aI k (a 2) 72 ffrees), (aI k (a 19) 768 fworths), (aI k (a 23) 8 (upd fb_7 (Int32.toNatClampNeg (nI g_7)) r_14))] H := hP
          replace hD : va_D A [((a 0), .inr (8, (fX8 a (nI tx) fp (nI t0) wd (nI we) nu na (nI rd) ts (nI ru) (nI rw) (nI ca) df db sd))), (aI k (a 1) 3 (nF dn)), (aI k (a 4) 27 (sg se tm gs)), (aI k (a 2) 72 ffrees), (aI k (a 19) 768 fworths), (aI k (a 23) 8 (upd fb_7 (Int32.toNatClampNeg (nI g_7)) r_14))] := hD
          generalize (upd fb_7 (Int32.toNatClampNeg (nI g_7)) r_14) = f_15 at hP hD
          refine lv_iinc (v := (nI (g_7 + 1))) (lv' := [(5, .int (nI (g_7 + 1))), (6, .int 0), (4, .int (nI q_6)), (3, .int (nI sv_2)), (0, .ref (a 0)), (1, .int (nI sn)), (2, .int (nI rn))]) hx hb dX8_startOf_128 hl (k := 1) rfl (nI_add g_7 1) (by decide) rfl (fun ls hl => ?_)
          refine lv_goto (tgt := 56) hx hb dX8_startOf_131 (by decide) ?_
          exact ih_7 _ (g_7 + 1, f_15) _ _ _ (by omega) ⟨rfl, (by omega), hP, hD, hS, (lv_sub hl [0, 2, 3, 4, 5, 6] rfl)⟩
        · have c_10 : ¬ (q_6 ≤ 0) := fun h => c_10 ((nI_leI (a := q_6) (b := 0) (by omega) (by omega)).mpr h)
          refine lv_iload hx hb dX8_startOf_70 (lv_at hl 0 rfl) ?_
          refine lv_iload hx hb dX8_startOf_72 (lv_at hl 1 rfl) ?_
          refine lv_iconst (v := 1) hx hb dX8_startOf_74 (by decide) ?_
          refine lv_isub hx hb dX8_startOf_75 ?_
          refine lv_ti (y := (nI (q_6 - 1))) (pk_sub (a := q_6) (b := 1) (by omega)) ?_
          refine lv_ishr hx hb dX8_startOf_76 ?_
          refine lv_topi (fun x_16 ex_16 => ?_)
          refine lv_iconst (v := 1) hx hb dX8_startOf_77 (by decide) ?_
          refine lv_iand hx hb dX8_startOf_78 ?_
          refine lv_topi (fun x_17 ex_17 => ?_)
          refine lv_iconst (v := 1) hx hb dX8_startOf_79 (by decide) ?_
          refine lv_icmp_ne (tgt := 87) hx hb dX8_startOf_80 (by decide) (fun c_18 => ?_) (fun c_18 => ?_)
          · refine lv_iconst (v := 0) hx hb dX8_startOf_87 (by decide) ?_
            refine lv_istore (lv' := [(6, .int 0), (5, .int (nI g_7)), (4, .int (nI q_6)), (3, .int (nI sv_2)), (0, .ref (a 0)), (1, .int (nI sn)), (2, .int (nI rn))]) hx hb dX8_startOf_88 hl (by decide) rfl (fun ls hl => ?_)
            refine lv_aload_n hx hb dX8_startOf_90 rfl (lv_at hl 4 rfl) ?_
            refine va_get (D := D) (ci := 8) (v := .ref (a 23)) (C := RX8) (T := TX8) (N := 44) hx hb hts inX8 hown hK hP 0 rfl rfl 22 (by decide) (hts _ tw_995) (fun _ h9 => h9) rfl dX8_startOf_91 ?_
            refine lv_iload hx hb dX8_startOf_94 (lv_at hl 1 rfl) ?_
            refine lv_aload_n hx hb dX8_startOf_96 rfl (lv_at hl 4 rfl) ?_
            refine lv_iload_n hx hb dX8_startOf_97 rfl (lv_at hl 5 rfl) ?_
            refine lv_iload hx hb dX8_startOf_98 (lv_at hl 2 rfl) ?_
            refine lv_iload hx hb dX8_startOf_100 (lv_at hl 0 rfl) ?_
            refine ro_i (D := D) (va_runV (As := [.int (nI sn), .int (nI q_6), .int 0]) (rest := [.int (nI g_7), .ref (a 23)]) ⟨hx, hb, hml, hown, hts⟩ ((m_chanceOf l D k st lo a tx t0 we rd ru rw ca fp wd nu na ts df db sd ffrees se tm gs sn q_6 0 (by omega) (by omega)) H.size) (cwV 3 hts (gV tw_1210 tw_1212 tw_41 tw_87 tw_1213) rfl rfl rfl (by decide +kernel) ⟨Nat.le_of_ble_eq_true rfl, Nat.le_of_ble_eq_true rfl⟩) (pV hS hAlo hlo hP hK (va_Dlo hD hAlo) hZ [0, 3, 2] (by decide) rfl (ci := 8) (q := (RX8, TX8, 44)) (q0 := 0) rfl rfl) rfl rfl hl.1 rfl (lv_room (Nat.le_of_ble_eq_true rfl)) dX8_startOf_102 ⟨Nat.le_of_ble_eq_true rfl, Nat.le_of_ble_eq_true rfl⟩) hS hA hP (fun r_19 H locs hw_19 hP hS => ?_)
            try dsimp only at hw_19
            refine lv_aload_n hx hb dX8_startOf_105 rfl (lv_at hl 4 rfl) ?_
            refine va_get (D := D) (ci := 8) (v := .ref (a 23)) (C := RX8) (T := TX8) (N := 44) hx hb hts inX8 hown hK hP 0 rfl rfl 22 (by decide) (hts _ tw_995) (fun _ h9 => h9) rfl dX8_startOf_106 ?_
            refine lv_iload hx hb dX8_startOf_109 (lv_at hl 1 rfl) ?_
            refine lv_iconst (v := 1) hx hb dX8_startOf_111 (by decide) ?_
            refine lv_iload hx hb dX8_startOf_112 (lv_at hl 2 rfl) ?_
            obtain ⟨pw_20, epw_20⟩ : ∃ z : Nat, z = 2 ^ q_6 := ⟨_, rfl⟩
            have hpw_20 : 1 ≤ pw_20 ∧ pw_20 ≤ 4 := by rw [epw_20]; exact pw4 (by omega)
            refine lv_ishl hx hb dX8_startOf_114 ?_
            refine lv_ti (y := (nI pw_20)) (by rw [epw_20]; exact shl1 q_6 (by omega)) ?_
            obtain ⟨ov_21, hov_21, eov_21⟩ := or8 g_7 (by omega) pw_20 (by omega)
            refine lv_ior hx hb dX8_startOf_115 ?_
            refine lv_ti (y := (nI ov_21)) eov_21 ?_
            refine va_iald hx hb hK hP 5 1 rfl rfl (vp_in_nI (by omega) (by decide)) dX8_startOf_116 ?_
            refine lv_ti (y := (fb_7 ov_21)) (by rw [nI_clamp (by omega)]) ?_
            refine lv_aload_n hx hb dX8_startOf_117 rfl (lv_at hl 4 rfl) ?_
            refine va_get (D := D) (ci := 8) (v := .ref (a 23)) (C := RX8) (T := TX8) (N := 44) hx hb hts inX8 hown hK hP 0 rfl rfl 22 (by decide) (hts _ tw_995) (fun _ h9 => h9) rfl dX8_startOf_118 ?_
            refine lv_iload hx hb dX8_startOf_121 (lv_at hl 1 rfl) ?_
            refine va_iald hx hb hK hP 5 1 rfl rfl (vp_in_nI (by omega) (by decide)) dX8_startOf_123 ?_
            refine lv_ti (y := (fb_7 g_7)) (by rw [nI_clamp (by omega)]) ?_
            refine ro_i (D := D) (va_runS (As := [.int r_19, .int (fb_7 ov_21), .int (fb_7 g_7)]) (rest := [.int (nI g_7), .ref (a 23)]) ⟨hx, hb, hml, hown, hts⟩ ((m_mixed l D k st lo r_19 (fb_7 ov_21) (fb_7 g_7)) H.size) (va_cwS 3 hts (gS tw_1269 tw_1270 tw_87 tw_1271) rfl rfl rfl (by decide +kernel) ⟨Nat.le_of_ble_eq_true rfl, Nat.le_of_ble_eq_true rfl⟩) (pS hS hAlo hlo hP hK (va_Dlo hD hAlo) hZ [] (by decide) rfl) rfl rfl hl.1 rfl (lv_room (Nat.le_of_ble_eq_true rfl)) dX8_startOf_124 ⟨Nat.le_of_ble_eq_true rfl, Nat.le_of_ble_eq_true rfl⟩) hS hA hP (fun r_22 H locs hw_22 hP hS => ?_)
            try dsimp only at hw_22
            refine va_iast hx hb hK hP hD hS 5 1 rfl rfl (vp_in_nI (by omega) (by decide)) dX8_startOf_127 (fun H locs hP hD hS => ?_)
            replace hP : va_P D classes [((a 0), .inr (8, (fX8 a (nI tx) fp (nI t0) wd (nI we) nu na (nI rd) ts (nI ru) (nI rw) (nI ca) df db sd))), (aI k (a 1) 3 (nF dn)), (aI k (a 4) 27 (sg se tm gs)), (aI k (a 2) 72 ffrees), (aI k (a 19) 768 fworths), (aI k (a 23) 8 (upd fb_7 (Int32.toNatClampNeg (nI g_7)) r_22))] H := hP
            replace hD : va_D A [((a 0), .inr (8, (fX8 a (nI tx) fp (nI t0) wd (nI we) nu na (nI rd) ts (nI ru) (nI rw) (nI ca) df db sd))), (aI k (a 1) 3 (nF dn)), (aI k (a 4) 27 (sg se tm gs)), (aI k (a 2) 72 ffrees), (aI k (a 19) 768 fworths), (aI k (a 23) 8 (upd fb_7 (Int32.toNatClampNeg (nI g_7)) r_22))] := hD
            generalize (upd fb_7 (Int32.toNatClampNeg (nI g_7)) r_22) = f_23 at hP hD
            refine lv_iinc (v := (nI (g_7 + 1))) (lv' := [(5, .int (nI (g_7 + 1))), (6, .int 0), (4, .int (nI q_6)), (3, .int (nI sv_2)), (0, .ref (a 0)), (1, .int (nI sn)), (2, .int (nI rn))]) hx hb dX8_startOf_128 hl (k := 1) rfl (nI_add g_7 1) (by decide) rfl (fun ls hl => ?_)
            refine lv_goto (tgt := 56) hx hb dX8_startOf_131 (by decide) ?_
            exact ih_7 _ (g_7 + 1, f_23) _ _ _ (by omega) ⟨rfl, (by omega), hP, hD, hS, (lv_sub hl [0, 2, 3, 4, 5, 6] rfl)⟩
          · refine lv_iconst (v := 1) hx hb dX8_startOf_83 (by decide) ?_
            refine lv_goto (tgt := 88) hx hb dX8_startOf_84 (by decide) ?_
            refine lv_istore (lv' := [(6, .int 1), (5, .int (nI g_7)), (4, .int (nI q_6)), (3, .int (nI sv_2)), (0, .ref (a 0)), (1, .int (nI sn)), (2, .int (nI rn))]) hx hb dX8_startOf_88 hl (by decide) rfl (fun ls hl => ?_)
            refine lv_aload_n hx hb dX8_startOf_90 rfl (lv_at hl 4 rfl) ?_
            refine va_get (D := D) (ci := 8) (v := .ref (a 23)) (C := RX8) (T := TX8) (N := 44) hx hb hts inX8 hown hK hP 0 rfl rfl 22 (by decide) (hts _ tw_995) (fun _ h9 => h9) rfl dX8_startOf_91 ?_
            refine lv_iload hx hb dX8_startOf_94 (lv_at hl 1 rfl) ?_
            refine lv_aload_n hx hb dX8_startOf_96 rfl (lv_at hl 4 rfl) ?_
            refine lv_iload_n hx hb dX8_startOf_97 rfl (lv_at hl 5 rfl) ?_
            refine lv_iload hx hb dX8_startOf_98 (lv_at hl 2 rfl) ?_
            refine lv_iload hx hb dX8_startOf_100 (lv_at hl 0 rfl) ?_
            refine ro_i (D := D) (va_runV (As := [.int (nI sn), .int (nI q_6), .int 1]) (rest := [.int (nI g_7), .ref (a 23)]) ⟨hx, hb, hml, hown, hts⟩ ((m_chanceOf l D k st lo a tx t0 we rd ru rw ca fp wd nu na ts df db sd ffrees se tm gs sn q_6 1 (by omega) (by omega)) H.size) (cwV 3 hts (gV tw_1210 tw_1212 tw_41 tw_87 tw_1213) rfl rfl rfl (by decide +kernel) ⟨Nat.le_of_ble_eq_true rfl, Nat.le_of_ble_eq_true rfl⟩) (pV hS hAlo hlo hP hK (va_Dlo hD hAlo) hZ [0, 3, 2] (by decide) rfl (ci := 8) (q := (RX8, TX8, 44)) (q0 := 0) rfl rfl) rfl rfl hl.1 rfl (lv_room (Nat.le_of_ble_eq_true rfl)) dX8_startOf_102 ⟨Nat.le_of_ble_eq_true rfl, Nat.le_of_ble_eq_true rfl⟩) hS hA hP (fun r_24 H locs hw_24 hP hS => ?_)
            try dsimp only at hw_24
            refine lv_aload_n hx hb dX8_startOf_105 rfl (lv_at hl 4 rfl) ?_
            refine va_get (D := D) (ci := 8) (v := .ref (a 23)) (C := RX8) (T := TX8) (N := 44) hx hb hts inX8 hown hK hP 0 rfl rfl 22 (by decide) (hts _ tw_995) (fun _ h9 => h9) rfl dX8_startOf_106 ?_
            refine lv_iload hx hb dX8_startOf_109 (lv_at hl 1 rfl) ?_
            refine lv_iconst (v := 1) hx hb dX8_startOf_111 (by decide) ?_
            refine lv_iload hx hb dX8_startOf_112 (lv_at hl 2 rfl) ?_
            obtain ⟨pw_25, epw_25⟩ : ∃ z : Nat, z = 2 ^ q_6 := ⟨_, rfl⟩
            have hpw_25 : 1 ≤ pw_25 ∧ pw_25 ≤ 4 := by rw [epw_25]; exact pw4 (by omega)
            refine lv_ishl hx hb dX8_startOf_114 ?_
            refine lv_ti (y := (nI pw_25)) (by rw [epw_25]; exact shl1 q_6 (by omega)) ?_
            obtain ⟨ov_26, hov_26, eov_26⟩ := or8 g_7 (by omega) pw_25 (by omega)
            refine lv_ior hx hb dX8_startOf_115 ?_
            refine lv_ti (y := (nI ov_26)) eov_26 ?_
            refine va_iald hx hb hK hP 5 1 rfl rfl (vp_in_nI (by omega) (by decide)) dX8_startOf_116 ?_
            refine lv_ti (y := (fb_7 ov_26)) (by rw [nI_clamp (by omega)]) ?_
            refine lv_aload_n hx hb dX8_startOf_117 rfl (lv_at hl 4 rfl) ?_
            refine va_get (D := D) (ci := 8) (v := .ref (a 23)) (C := RX8) (T := TX8) (N := 44) hx hb hts inX8 hown hK hP 0 rfl rfl 22 (by decide) (hts _ tw_995) (fun _ h9 => h9) rfl dX8_startOf_118 ?_
            refine lv_iload hx hb dX8_startOf_121 (lv_at hl 1 rfl) ?_
            refine va_iald hx hb hK hP 5 1 rfl rfl (vp_in_nI (by omega) (by decide)) dX8_startOf_123 ?_
            refine lv_ti (y := (fb_7 g_7)) (by rw [nI_clamp (by omega)]) ?_
            refine ro_i (D := D) (va_runS (As := [.int r_24, .int (fb_7 ov_26), .int (fb_7 g_7)]) (rest := [.int (nI g_7), .ref (a 23)]) ⟨hx, hb, hml, hown, hts⟩ ((m_mixed l D k st lo r_24 (fb_7 ov_26) (fb_7 g_7)) H.size) (va_cwS 3 hts (gS tw_1269 tw_1270 tw_87 tw_1271) rfl rfl rfl (by decide +kernel) ⟨Nat.le_of_ble_eq_true rfl, Nat.le_of_ble_eq_true rfl⟩) (pS hS hAlo hlo hP hK (va_Dlo hD hAlo) hZ [] (by decide) rfl) rfl rfl hl.1 rfl (lv_room (Nat.le_of_ble_eq_true rfl)) dX8_startOf_124 ⟨Nat.le_of_ble_eq_true rfl, Nat.le_of_ble_eq_true rfl⟩) hS hA hP (fun r_27 H locs hw_27 hP hS => ?_)
            try dsimp only at hw_27
            refine va_iast hx hb hK hP hD hS 5 1 rfl rfl (vp_in_nI (by omega) (by decide)) dX8_startOf_127 (fun H locs hP hD hS => ?_)
            replace hP : va_P D classes [((a 0), .inr (8, (fX8 a (nI tx) fp (nI t0) wd (nI we) nu na (nI rd) ts (nI ru) (nI rw) (nI ca) df db sd))), (aI k (a 1) 3 (nF dn)), (aI k (a 4) 27 (sg se tm gs)), (aI k (a 2) 72 ffrees), (aI k (a 19) 768 fworths), (aI k (a 23) 8 (upd fb_7 (Int32.toNatClampNeg (nI g_7)) r_27))] H := hP
            replace hD : va_D A [((a 0), .inr (8, (fX8 a (nI tx) fp (nI t0) wd (nI we) nu na (nI rd) ts (nI ru) (nI rw) (nI ca) df db sd))), (aI k (a 1) 3 (nF dn)), (aI k (a 4) 27 (sg se tm gs)), (aI k (a 2) 72 ffrees), (aI k (a 19) 768 fworths), (aI k (a 23) 8 (upd fb_7 (Int32.toNatClampNeg (nI g_7)) r_27))] := hD
            generalize (upd fb_7 (Int32.toNatClampNeg (nI g_7)) r_27) = f_28 at hP hD
            refine lv_iinc (v := (nI (g_7 + 1))) (lv' := [(5, .int (nI (g_7 + 1))), (6, .int 1), (4, .int (nI q_6)), (3, .int (nI sv_2)), (0, .ref (a 0)), (1, .int (nI sn)), (2, .int (nI rn))]) hx hb dX8_startOf_128 hl (k := 1) rfl (nI_add g_7 1) (by decide) rfl (fun ls hl => ?_)
            refine lv_goto (tgt := 56) hx hb dX8_startOf_131 (by decide) ?_
            exact ih_7 _ (g_7 + 1, f_28) _ _ _ (by omega) ⟨rfl, (by omega), hP, hD, hS, (lv_sub hl [0, 2, 3, 4, 5, 6] rfl)⟩
  · have c_5 : ¬ (pw_4 ≤ g_3) := fun h => c_5 ((nI_leI (a := pw_4) (b := g_3) (by omega) (by omega)).mpr h)
    refine lv_aload_n hx hb dX8_startOf_18 rfl (lv_at hl 2 rfl) ?_
    refine va_get (D := D) (ci := 8) (v := .ref (a 23)) (C := RX8) (T := TX8) (N := 44) hx hb hts inX8 hown hK hP 0 rfl rfl 22 (by decide) (hts _ tw_995) (fun _ h9 => h9) rfl dX8_startOf_19 ?_
    refine lv_iload hx hb dX8_startOf_22 (lv_at hl 0 rfl) ?_
    refine lv_aload_n hx hb dX8_startOf_24 rfl (lv_at hl 2 rfl) ?_
    refine va_get (D := D) (ci := 8) (v := .ref (a 19)) (C := RX8) (T := TX8) (N := 44) hx hb hts inX8 hown hK hP 0 rfl rfl 18 (by decide) (hts _ tw_991) (fun _ h9 => h9) rfl dX8_startOf_25 ?_
    refine lv_iload_n hx hb dX8_startOf_28 rfl (lv_at hl 4 rfl) ?_
    refine lv_iconst (v := 0) hx hb dX8_startOf_29 (by decide) ?_
    refine lv_iload hx hb dX8_startOf_30 (lv_at hl 0 rfl) ?_
    refine ro_i (D := D) (va_runS (As := [.int (nI rn), .int 0, .int (nI g_3)]) (rest := [.ref (a 19), .int (nI g_3), .ref (a 23)]) ⟨hx, hb, hml, hown, hts⟩ ((m_at l D k st lo rn 0 g_3) H.size) (va_cwS 3 hts (gS tw_1266 tw_1267 tw_87 tw_1268) rfl rfl rfl (by decide +kernel) ⟨Nat.le_of_ble_eq_true rfl, Nat.le_of_ble_eq_true rfl⟩) (pS hS hAlo hlo hP hK (va_Dlo hD hAlo) hZ [] (by decide) rfl) rfl rfl hl.1 rfl (lv_room (Nat.le_of_ble_eq_true rfl)) dX8_startOf_32 ⟨Nat.le_of_ble_eq_true rfl, Nat.le_of_ble_eq_true rfl⟩) hS hA hP (fun r_29 H locs hw_29 hP hS => ?_)
    try dsimp only at hw_29
    subst hw_29
    refine va_iald hx hb hK hP 4 1 rfl rfl (vp_in_nI (by omega) (by decide)) dX8_startOf_35 ?_
    refine lv_ti (y := (fworths (192 * rn + 8 * 0 + g_3))) (by rw [nI_clamp (by omega)]) ?_
    refine va_iast hx hb hK hP hD hS 5 1 rfl rfl (vp_in_nI (by omega) (by decide)) dX8_startOf_36 (fun H locs hP hD hS => ?_)
    replace hP : va_P D classes [((a 0), .inr (8, (fX8 a (nI tx) fp (nI t0) wd (nI we) nu na (nI rd) ts (nI ru) (nI rw) (nI ca) df db sd))), (aI k (a 1) 3 (nF dn)), (aI k (a 4) 27 (sg se tm gs)), (aI k (a 2) 72 ffrees), (aI k (a 19) 768 fworths), (aI k (a 23) 8 (upd fb_3 (Int32.toNatClampNeg (nI g_3)) (fworths (192 * rn + 8 * 0 + g_3))))] H := hP
    replace hD : va_D A [((a 0), .inr (8, (fX8 a (nI tx) fp (nI t0) wd (nI we) nu na (nI rd) ts (nI ru) (nI rw) (nI ca) df db sd))), (aI k (a 1) 3 (nF dn)), (aI k (a 4) 27 (sg se tm gs)), (aI k (a 2) 72 ffrees), (aI k (a 19) 768 fworths), (aI k (a 23) 8 (upd fb_3 (Int32.toNatClampNeg (nI g_3)) (fworths (192 * rn + 8 * 0 + g_3))))] := hD
    generalize (upd fb_3 (Int32.toNatClampNeg (nI g_3)) (fworths (192 * rn + 8 * 0 + g_3))) = f_30 at hP hD
    refine lv_iinc (v := (nI (g_3 + 1))) (lv' := [(4, .int (nI (g_3 + 1))), (3, .int (nI sv_2)), (0, .ref (a 0)), (1, .int (nI sn)), (2, .int (nI rn))]) hx hb dX8_startOf_37 hl (k := 0) rfl (nI_add g_3 1) (by decide) rfl (fun ls hl => ?_)
    refine lv_goto (tgt := 10) hx hb dX8_startOf_40 (by decide) ?_
    exact ih_3 _ (g_3 + 1, f_30) _ _ _ (by omega) ⟨rfl, (by omega), hP, hD, hS, (lv_sub hl [0, 1, 2, 3, 4] rfl)⟩


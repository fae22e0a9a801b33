theorem dX8_on_0 : decode cX8_on 0 = .ok (.aload_n 0, 1) := by decide +kernel
theorem dX8_on_1 : decode cX8_on 1 = .ok (.iload_n 1, 1) := by decide +kernel
theorem dX8_on_2 : decode cX8_on 2 = .ok (.iconst 5, 1) := by decide +kernel
theorem dX8_on_3 : decode cX8_on 3 = .ok (.invokevirtual 212, 3) := by decide +kernel
theorem dX8_on_6 : decode cX8_on 6 = .ok (.istore 5, 2) := by decide +kernel
theorem dX8_on_8 : decode cX8_on 8 = .ok (.iload_n 3, 1) := by decide +kernel
theorem dX8_on_9 : decode cX8_on 9 = .ok (.iconst 1, 1) := by decide +kernel
theorem dX8_on_10 : decode cX8_on 10 = .ok (.iadd, 1) := by decide +kernel
theorem dX8_on_11 : decode cX8_on 11 = .ok (.iload 5, 2) := by decide +kernel
theorem dX8_on_13 : decode cX8_on 13 = .ok (.iadd, 1) := by decide +kernel
theorem dX8_on_14 : decode cX8_on 14 = .ok (.istore 6, 2) := by decide +kernel
theorem dX8_on_16 : decode cX8_on 16 = .ok (.iload 4, 2) := by decide +kernel
theorem dX8_on_18 : decode cX8_on 18 = .ok (.iconst 1, 1) := by decide +kernel
theorem dX8_on_19 : decode cX8_on 19 = .ok (.ishr, 1) := by decide +kernel
theorem dX8_on_20 : decode cX8_on 20 = .ok (.istore 7, 2) := by decide +kernel
theorem dX8_on_22 : decode cX8_on 22 = .ok (.iload 6, 2) := by decide +kernel
theorem dX8_on_24 : decode cX8_on 24 = .ok (.aload_n 0, 1) := by decide +kernel
theorem dX8_on_25 : decode cX8_on 25 = .ok (.getfield 7, 3) := by decide +kernel
theorem dX8_on_28 : decode cX8_on 28 = .ok (.iload_n 1, 1) := by decide +kernel
theorem dX8_on_29 : decode cX8_on 29 = .ok (.iaload, 1) := by decide +kernel
theorem dX8_on_30 : decode cX8_on 30 = .ok (.if_icmp .lt 18, 3) := by decide +kernel
theorem dX8_on_33 : decode cX8_on 33 = .ok (.aload_n 0, 1) := by decide +kernel
theorem dX8_on_34 : decode cX8_on 34 = .ok (.getfield 41, 3) := by decide +kernel
theorem dX8_on_37 : decode cX8_on 37 = .ok (.iload_n 2, 1) := by decide +kernel
theorem dX8_on_38 : decode cX8_on 38 = .ok (.iload_n 3, 1) := by decide +kernel
theorem dX8_on_39 : decode cX8_on 39 = .ok (.iconst 1, 1) := by decide +kernel
theorem dX8_on_40 : decode cX8_on 40 = .ok (.iadd, 1) := by decide +kernel
theorem dX8_on_41 : decode cX8_on 41 = .ok (.iload 7, 2) := by decide +kernel
theorem dX8_on_43 : decode cX8_on 43 = .ok (.invokestatic 242, 3) := by decide +kernel
theorem dX8_on_46 : decode cX8_on 46 = .ok (.iaload, 1) := by decide +kernel
theorem dX8_on_47 : decode cX8_on 47 = .ok (.ireturn, 1) := by decide +kernel
theorem dX8_on_48 : decode cX8_on 48 = .ok (.aload_n 0, 1) := by decide +kernel
theorem dX8_on_49 : decode cX8_on 49 = .ok (.iload_n 1, 1) := by decide +kernel
theorem dX8_on_50 : decode cX8_on 50 = .ok (.iload 6, 2) := by decide +kernel
theorem dX8_on_52 : decode cX8_on 52 = .ok (.iload 4, 2) := by decide +kernel
theorem dX8_on_54 : decode cX8_on 54 = .ok (.iload 5, 2) := by decide +kernel
theorem dX8_on_56 : decode cX8_on 56 = .ok (.ishr, 1) := by decide +kernel
theorem dX8_on_57 : decode cX8_on 57 = .ok (.iconst 1, 1) := by decide +kernel
theorem dX8_on_58 : decode cX8_on 58 = .ok (.iand, 1) := by decide +kernel
theorem dX8_on_59 : decode cX8_on 59 = .ok (.iconst 1, 1) := by decide +kernel
theorem dX8_on_60 : decode cX8_on 60 = .ok (.if_icmp .ne 7, 3) := by decide +kernel
theorem dX8_on_63 : decode cX8_on 63 = .ok (.iconst 1, 1) := by decide +kernel
theorem dX8_on_64 : decode cX8_on 64 = .ok (.goto 4, 3) := by decide +kernel
theorem dX8_on_67 : decode cX8_on 67 = .ok (.iconst 0, 1) := by decide +kernel
theorem dX8_on_68 : decode cX8_on 68 = .ok (.invokevirtual 219, 3) := by decide +kernel
theorem dX8_on_71 : decode cX8_on 71 = .ok (.istore 8, 2) := by decide +kernel
theorem dX8_on_73 : decode cX8_on 73 = .ok (.iload 8, 2) := by decide +kernel
theorem dX8_on_75 : decode cX8_on 75 = .ok (.aload_n 0, 1) := by decide +kernel
theorem dX8_on_76 : decode cX8_on 76 = .ok (.getfield 41, 3) := by decide +kernel
theorem dX8_on_79 : decode cX8_on 79 = .ok (.iload_n 2, 1) := by decide +kernel
theorem dX8_on_80 : decode cX8_on 80 = .ok (.iload_n 3, 1) := by decide +kernel
theorem dX8_on_81 : decode cX8_on 81 = .ok (.iconst 1, 1) := by decide +kernel
theorem dX8_on_82 : decode cX8_on 82 = .ok (.iadd, 1) := by decide +kernel
theorem dX8_on_83 : decode cX8_on 83 = .ok (.iload 7, 2) := by decide +kernel
theorem dX8_on_85 : decode cX8_on 85 = .ok (.iconst 1, 1) := by decide +kernel
theorem dX8_on_86 : decode cX8_on 86 = .ok (.iload 5, 2) := by decide +kernel
theorem dX8_on_88 : decode cX8_on 88 = .ok (.ishl, 1) := by decide +kernel
theorem dX8_on_89 : decode cX8_on 89 = .ok (.ior, 1) := by decide +kernel
theorem dX8_on_90 : decode cX8_on 90 = .ok (.invokestatic 242, 3) := by decide +kernel
theorem dX8_on_93 : decode cX8_on 93 = .ok (.iaload, 1) := by decide +kernel
theorem dX8_on_94 : decode cX8_on 94 = .ok (.aload_n 0, 1) := by decide +kernel
theorem dX8_on_95 : decode cX8_on 95 = .ok (.getfield 41, 3) := by decide +kernel
theorem dX8_on_98 : decode cX8_on 98 = .ok (.iload_n 2, 1) := by decide +kernel
theorem dX8_on_99 : decode cX8_on 99 = .ok (.iload_n 3, 1) := by decide +kernel
theorem dX8_on_100 : decode cX8_on 100 = .ok (.iconst 1, 1) := by decide +kernel
theorem dX8_on_101 : decode cX8_on 101 = .ok (.iadd, 1) := by decide +kernel
theorem dX8_on_102 : decode cX8_on 102 = .ok (.iload 7, 2) := by decide +kernel
theorem dX8_on_104 : decode cX8_on 104 = .ok (.invokestatic 242, 3) := by decide +kernel
theorem dX8_on_107 : decode cX8_on 107 = .ok (.iaload, 1) := by decide +kernel
theorem dX8_on_108 : decode cX8_on 108 = .ok (.invokestatic 245, 3) := by decide +kernel
theorem dX8_on_111 : decode cX8_on 111 = .ok (.ireturn, 1) := by decide +kernel
set_option maxHeartbeats 4000000 in
set_option maxRecDepth 100000 in
theorem m_on (l : Launch) (D : va_G) (k : Nat → ClassId) (st : Nat → Nat) (lo : Nat) (a : Nat → Nat) (tx : Nat) (t0 : Nat) (we : Nat) (rd : Nat) (ru : Nat) (rw : Nat) (ca : Nat) (fp : Int32) (wd : Int64) (nu : Int32) (na : Int32) (ts : Int32) (df : Int32) (db : Int32) (sd : Int32) (dn : Nat → Nat) (se : Nat → Nat) (tm : Nat → Nat) (gs : Nat → Int32) (ffrees : Nat → Int32) (fworths : Nat → Int32) (sn : Nat) (rn : Nat) (i : Nat) (g : Nat) (hdn : ∀ j, dn j ≤ 24) (hse : ∀ j, se j ≤ 2) (hs : sn < 3) (hrn : rn ≤ 3) (hi : i + 1 < dn sn) (hg : g < 8) : CRi l D k st lo yX8_on cX8_on 9 (some .int) ({ frames := 2, cells := 0, slots := 0, locals := 47 }) [.ref (a 0), .int (nI sn), .int (nI rn), .int (nI i), .int (nI g)] [((a 0), .inr (8, [.ref (a 1), .ref (a 2), .ref (a 3), .ref (a 4), .ref (a 5), .int (nI tx), .int fp, .int (nI t0), .long wd, .int (nI we), .int nu, .int na, .int (nI rd), .ref (a 14), .ref (a 15), .ref (a 16), .int ts, .ref (a 18), .ref (a 19), .ref (a 20), .ref (a 21), .ref (a 22), .ref (a 23), .int (nI ru), .ref (a 25), .ref (a 26), .ref (a 27), .ref (a 28), .ref (a 29), .ref (a 30), .int (nI rw), .ref (a 32), .ref (a 33), .ref (a 34), .int (nI ca), .ref (a 36), .ref (a 37), .int df, .int db, .ref (a 40), .ref (a 41), .int sd, .ref (a 43), .ref (a 44)])), ((a 1), .inl (k 1, 3, .inl (nF dn))), ((a 4), .inl (k 1, 27, .inl (sg se tm gs))), ((a 2), .inl (k 1, 72, .inl ffrees)), ((a 19), .inl (k 1, 768, .inl fworths))] (fun r => True) := by
  intro sz
  refine Met.ofW (cc := cX8_on) (maxL := 9) (ret := (some .int)) (by decide) rfl ?_
  intro p e s m args below meth c s₁ B hml hv
  obtain ⟨rfl, hsz, hlo, hP, hK, hDL, hZ⟩ := hv
  have hx := B.exec
  have hb := B.bytes
  have hr := B.returns
  have hts := WS_ts B.pre
  have hown : s.vm.findClass RX8 = some m.cls := findClass_of_methodNamed B.named
  have hlocks := B.notSynchronized
  subst hsz
  have hA : ∀ q : Nat, s.heap.size ≤ q → (fun q : Nat => s.heap.size ≤ q) q := fun _ h => h
  have hAlo : ∀ q : Nat, (fun q : Nat => s.heap.size ≤ q) q → lo ≤ q := fun q h => Nat.le_trans hlo h
  have hS : va_S (fun q : Nat => s.heap.size ≤ q) s.heap s.heap [] := va_S.rf
  have hl := lv_entry ([.ref (a 0), .int (nI sn), .int (nI rn), .int (nI i), .int (nI g)]) (n := 9) (Nat.le_of_ble_eq_true rfl)
  rw [lg_entry_eq]
  generalize (lg_sl ([.ref (a 0), .int (nI sn), .int (nI rn), .int (nI i), .int (nI g)]) ++ List.replicate (9 - (lg_sl ([.ref (a 0), .int (nI sn), .int (nI rn), .int (nI i), .int (nI g)])).length) Slot.unset).toArray = ls at hl ⊢
  have hl : lv_has ls 9 [(0, .ref (a 0)), (1, .int (nI sn)), (2, .int (nI rn)), (3, .int (nI i)), (4, .int (nI g))] := hl
  have hd_9 := hdn sn
  have hd_8 := hse sn
  refine lv_aload_n hx hb dX8_on_0 rfl (lv_at hl 0 rfl) ?_
  refine lv_iload_n hx hb dX8_on_1 rfl (lv_at hl 1 rfl) ?_
  refine lv_iconst (v := 5) hx hb dX8_on_2 (by decide) ?_
  refine ro_i (D := D) (va_runV (As := [.int (nI sn), .int 5]) (rest := []) ⟨hx, hb, hml, hown, hts⟩ ((m_of l D k st lo a tx t0 we rd ru rw ca fp wd nu na ts df db sd se tm gs sn 5 (by omega) (by omega)) s.heap.size) (cwV 2 hts (gV tw_1194 tw_1196 tw_39 tw_87 tw_1197) rfl rfl rfl (by decide +kernel) ⟨Nat.le_of_ble_eq_true rfl, Nat.le_of_ble_eq_true rfl⟩) (pV hS hAlo hlo hP hK hDL hZ [0, 2] (by decide) rfl (ci := 8) (q0 := 0) rfl rfl) rfl rfl hl.1 rfl (lv_room (Nat.le_of_ble_eq_true rfl)) dX8_on_3 ⟨Nat.le_of_ble_eq_true rfl, Nat.le_of_ble_eq_true rfl⟩) hS hA hP (fun r_1 H locs hw_1 hP hS => ?_)
  try dsimp only at hw_1
  obtain rfl := hw_1.trans (sg_se _ _ _ _)
  refine lv_istore (lv' := [(5, .int (nI (se sn))), (0, .ref (a 0)), (1, .int (nI sn)), (2, .int (nI rn)), (3, .int (nI i)), (4, .int (nI g))]) hx hb dX8_on_6 hl (by decide) rfl (fun ls hl => ?_)
  refine lv_iload_n hx hb dX8_on_8 rfl (lv_at hl 4 rfl) ?_
  refine lv_iconst (v := 1) hx hb dX8_on_9 (by decide) ?_
  refine lv_iadd hx hb dX8_on_10 ?_
  refine lv_ti (y := (nI (i + 1))) (nI_add i 1) ?_
  refine lv_iload hx hb dX8_on_11 (lv_at hl 0 rfl) ?_
  refine lv_iadd hx hb dX8_on_13 ?_
  refine lv_ti (y := (nI (i + 1 + se sn))) (nI_add (i + 1) (se sn)) ?_
  refine lv_istore (lv' := [(6, .int (nI (i + 1 + se sn))), (5, .int (nI (se sn))), (0, .ref (a 0)), (1, .int (nI sn)), (2, .int (nI rn)), (3, .int (nI i)), (4, .int (nI g))]) hx hb dX8_on_14 hl (by decide) rfl (fun ls hl => ?_)
  refine lv_iload hx hb dX8_on_16 (lv_at hl 6 rfl) ?_
  refine lv_iconst (v := 1) hx hb dX8_on_18 (by decide) ?_
  refine lv_ishr hx hb dX8_on_19 ?_
  refine lv_ti (y := (nI (g / 2))) (pk_shrN (by omega) _ 1 (by decide)) ?_
  refine lv_istore (lv' := [(7, .int (nI (g / 2))), (6, .int (nI (i + 1 + se sn))), (5, .int (nI (se sn))), (0, .ref (a 0)), (1, .int (nI sn)), (2, .int (nI rn)), (3, .int (nI i)), (4, .int (nI g))]) hx hb dX8_on_20 hl (by decide) rfl (fun ls hl => ?_)
  refine lv_iload hx hb dX8_on_22 (lv_at hl 1 rfl) ?_
  refine lv_aload_n hx hb dX8_on_24 rfl (lv_at hl 3 rfl) ?_
  refine va_get (D := D) (ci := 8) (v := .ref (a 1)) (C := RX8) (T := TX8) (N := 44) hx hb hts inX8 hown hK hP 0 rfl rfl 0 (by decide) (hts _ tw_973) (fun _ h9 => h9) rfl dX8_on_25 ?_
  refine lv_iload_n hx hb dX8_on_28 rfl (lv_at hl 4 rfl) ?_
  refine va_iald hx hb hK hP 1 1 rfl rfl (vp_in_nI (by omega) (by decide)) dX8_on_29 ?_
  refine lv_ti (y := (nI (dn sn))) (by rw [nI_clamp (by omega)]; rfl) ?_
  refine lv_icmp_lt (tgt := 48) hx hb dX8_on_30 (by decide) (fun c_2 => ?_) (fun c_2 => ?_)
  · have c_2 := (nI_ltI (a := (i + 1 + se sn)) (b := (dn sn)) (by omega) (by omega)).mp c_2
    refine lv_aload_n hx hb dX8_on_48 rfl (lv_at hl 3 rfl) ?_
    refine lv_iload_n hx hb dX8_on_49 rfl (lv_at hl 4 rfl) ?_
    refine lv_iload hx hb dX8_on_50 (lv_at hl 1 rfl) ?_
    refine lv_iload hx hb dX8_on_52 (lv_at hl 7 rfl) ?_
    refine lv_iload hx hb dX8_on_54 (lv_at hl 2 rfl) ?_
    refine lv_ishr hx hb dX8_on_56 ?_
    refine lv_topi (fun x_3 ex_3 => ?_)
    refine lv_iconst (v := 1) hx hb dX8_on_57 (by decide) ?_
    refine lv_iand hx hb dX8_on_58 ?_
    refine lv_topi (fun x_4 ex_4 => ?_)
    refine lv_iconst (v := 1) hx hb dX8_on_59 (by decide) ?_
    refine lv_icmp_ne (tgt := 67) hx hb dX8_on_60 (by decide) (fun c_5 => ?_) (fun c_5 => ?_)
    · refine lv_iconst (v := 0) hx hb dX8_on_67 (by decide) ?_
      refine ro_i (D := D) (va_runV (As := [.int (nI sn), .int (nI (i + 1 + se sn)), .int 0]) (rest := []) ⟨hx, hb, hml, hown, hts⟩ ((m_chanceOf l D k st lo a tx t0 we rd ru rw ca fp wd nu na ts df db sd ffrees se tm gs sn (i + 1 + se sn) 0 (by omega) (by omega)) H.size) (cwV 3 hts (gV tw_1210 tw_1212 tw_41 tw_87 tw_1213) rfl rfl rfl (by decide +kernel) ⟨Nat.le_of_ble_eq_true rfl, Nat.le_of_ble_eq_true rfl⟩) (pV hS hAlo hlo hP hK hDL hZ [0, 3, 2] (by decide) rfl (ci := 8) (q0 := 0) rfl rfl) rfl rfl hl.1 rfl (lv_room (Nat.le_of_ble_eq_true rfl)) dX8_on_68 ⟨Nat.le_of_ble_eq_true rfl, Nat.le_of_ble_eq_true rfl⟩) hS hA hP (fun r_6 H locs hw_6 hP hS => ?_)
      try dsimp only at hw_6
      refine lv_istore (lv' := [(8, .int r_6), (7, .int (nI (g / 2))), (6, .int (nI (i + 1 + se sn))), (5, .int (nI (se sn))), (0, .ref (a 0)), (1, .int (nI sn)), (2, .int (nI rn)), (3, .int (nI i)), (4, .int (nI g))]) hx hb dX8_on_71 hl (by decide) rfl (fun ls hl => ?_)
      refine lv_iload hx hb dX8_on_73 (lv_at hl 0 rfl) ?_
      refine lv_aload_n hx hb dX8_on_75 rfl (lv_at hl 4 rfl) ?_
      refine va_get (D := D) (ci := 8) (v := .ref (a 19)) (C := RX8) (T := TX8) (N := 44) hx hb hts inX8 hown hK hP 0 rfl rfl 18 (by decide) (hts _ tw_991) (fun _ h9 => h9) rfl dX8_on_76 ?_
      refine lv_iload_n hx hb dX8_on_79 rfl (lv_at hl 6 rfl) ?_
      refine lv_iload_n hx hb dX8_on_80 rfl (lv_at hl 7 rfl) ?_
      refine lv_iconst (v := 1) hx hb dX8_on_81 (by decide) ?_
      refine lv_iadd hx hb dX8_on_82 ?_
      refine lv_ti (y := (nI (i + 1))) (nI_add i 1) ?_
      refine lv_iload hx hb dX8_on_83 (lv_at hl 1 rfl) ?_
      refine lv_iconst (v := 1) hx hb dX8_on_85 (by decide) ?_
      refine lv_iload hx hb dX8_on_86 (lv_at hl 3 rfl) ?_
      obtain ⟨pw_7, epw_7⟩ : ∃ z : Nat, z = 2 ^ (se sn) := ⟨_, rfl⟩
      have hpw_7 : 1 ≤ pw_7 ∧ pw_7 ≤ 4 := by rw [epw_7]; exact pw4 (by omega)
      refine lv_ishl hx hb dX8_on_88 ?_
      refine lv_ti (y := (nI pw_7)) (by rw [epw_7]; exact shl1 (se sn) (by omega)) ?_
      obtain ⟨ov_8, hov_8, eov_8⟩ := or8 (g / 2) (by omega) pw_7 (by omega)
      refine lv_ior hx hb dX8_on_89 ?_
      refine lv_ti (y := (nI ov_8)) eov_8 ?_
      refine ro_i (D := D) (va_runS (As := [.int (nI rn), .int (nI (i + 1)), .int (nI ov_8)]) (rest := [.ref (a 19), .int r_6]) ⟨hx, hb, hml, hown, hts⟩ ((m_at l D k st lo rn (i + 1) ov_8) H.size) (va_cwS 3 hts (gS tw_1266 tw_1267 tw_87 tw_1268) rfl rfl rfl (by decide +kernel) ⟨Nat.le_of_ble_eq_true rfl, Nat.le_of_ble_eq_true rfl⟩) (pS hS hAlo hlo hP hK hDL hZ [] (by decide) rfl) rfl rfl hl.1 rfl (lv_room (Nat.le_of_ble_eq_true rfl)) dX8_on_90 ⟨Nat.le_of_ble_eq_true rfl, Nat.le_of_ble_eq_true rfl⟩) hS hA hP (fun r_9 H locs hw_9 hP hS => ?_)
      try dsimp only at hw_9
      subst hw_9
      refine va_iald hx hb hK hP 4 1 rfl rfl (vp_in_nI (by omega) (by decide)) dX8_on_93 ?_
      refine lv_ti (y := (fworths (192 * rn + 8 * (i + 1) + ov_8))) (by rw [nI_clamp (by omega)]) ?_
      refine lv_aload_n hx hb dX8_on_94 rfl (lv_at hl 4 rfl) ?_
      refine va_get (D := D) (ci := 8) (v := .ref (a 19)) (C := RX8) (T := TX8) (N := 44) hx hb hts inX8 hown hK hP 0 rfl rfl 18 (by decide) (hts _ tw_991) (fun _ h9 => h9) rfl dX8_on_95 ?_
      refine lv_iload_n hx hb dX8_on_98 rfl (lv_at hl 6 rfl) ?_
      refine lv_iload_n hx hb dX8_on_99 rfl (lv_at hl 7 rfl) ?_
      refine lv_iconst (v := 1) hx hb dX8_on_100 (by decide) ?_
      refine lv_iadd hx hb dX8_on_101 ?_
      refine lv_ti (y := (nI (i + 1))) (nI_add i 1) ?_
      refine lv_iload hx hb dX8_on_102 (lv_at hl 1 rfl) ?_
      refine ro_i (D := D) (va_runS (As := [.int (nI rn), .int (nI (i + 1)), .int (nI (g / 2))]) (rest := [.ref (a 19), .int (fworths (192 * rn + 8 * (i + 1) + ov_8)), .int r_6]) ⟨hx, hb, hml, hown, hts⟩ ((m_at l D k st lo rn (i + 1) (g / 2)) H.size) (va_cwS 3 hts (gS tw_1266 tw_1267 tw_87 tw_1268) rfl rfl rfl (by decide +kernel) ⟨Nat.le_of_ble_eq_true rfl, Nat.le_of_ble_eq_true rfl⟩) (pS hS hAlo hlo hP hK hDL hZ [] (by decide) rfl) rfl rfl hl.1 rfl (lv_room (Nat.le_of_ble_eq_true rfl)) dX8_on_104 ⟨Nat.le_of_ble_eq_true rfl, Nat.le_of_ble_eq_true rfl⟩) hS hA hP (fun r_10 H locs hw_10 hP hS => ?_)
      try dsimp only at hw_10
      subst hw_10
      refine va_iald hx hb hK hP 4 1 rfl rfl (vp_in_nI (by omega) (by decide)) dX8_on_107 ?_
      refine lv_ti (y := (fworths (192 * rn + 8 * (i + 1) + (g / 2)))) (by rw [nI_clamp (by omega)]) ?_
      refine ro_i (D := D) (va_runS (As := [.int r_6, .int (fworths (192 * rn + 8 * (i + 1) + ov_8)), .int (fworths (192 * rn + 8 * (i + 1) + (g / 2)))]) (rest := []) ⟨hx, hb, hml, hown, hts⟩ ((m_mixed l D k st lo r_6 (fworths (192 * rn + 8 * (i + 1) + ov_8)) (fworths (192 * rn + 8 * (i + 1) + (g / 2)))) H.size) (va_cwS 3 hts (gS tw_1269 tw_1270 tw_87 tw_1271) rfl rfl rfl (by decide +kernel) ⟨Nat.le_of_ble_eq_true rfl, Nat.le_of_ble_eq_true rfl⟩) (pS hS hAlo hlo hP hK hDL hZ [] (by decide) rfl) rfl rfl hl.1 rfl (lv_room (Nat.le_of_ble_eq_true rfl)) dX8_on_108 ⟨Nat.le_of_ble_eq_true rfl, Nat.le_of_ble_eq_true rfl⟩) hS hA hP (fun r_11 H locs hw_11 hP hS => ?_)
      try dsimp only at hw_11
      exact W.iret (v := r_11) hx hb hr (fun t ht hW => ⟨⟨r_11, (), rfl, trivial, trivial⟩, hS.F ht⟩) hS.2.2 dX8_on_111
    · refine lv_iconst (v := 1) hx hb dX8_on_63 (by decide) ?_
      refine lv_goto (tgt := 68) hx hb dX8_on_64 (by decide) ?_
      refine ro_i (D := D) (va_runV (As := [.int (nI sn), .int (nI (i + 1 + se sn)), .int 1]) (rest := []) ⟨hx, hb, hml, hown, hts⟩ ((m_chanceOf l D k st lo a tx t0 we rd ru rw ca fp wd nu na ts df db sd ffrees se tm gs sn (i + 1 + se sn) 1 (by omega) (by omega)) H.size) (cwV 3 hts (gV tw_1210 tw_1212 tw_41 tw_87 tw_1213) rfl rfl rfl (by decide +kernel) ⟨Nat.le_of_ble_eq_true rfl, Nat.le_of_ble_eq_true rfl⟩) (pV hS hAlo hlo hP hK hDL hZ [0, 3, 2] (by decide) rfl (ci := 8) (q0 := 0) rfl rfl) rfl rfl hl.1 rfl (lv_room (Nat.le_of_ble_eq_true rfl)) dX8_on_68 ⟨Nat.le_of_ble_eq_true rfl, Nat.le_of_ble_eq_true rfl⟩) hS hA hP (fun r_12 H locs hw_12 hP hS => ?_)
      try dsimp only at hw_12
      refine lv_istore (lv' := [(8, .int r_12), (7, .int (nI (g / 2))), (6, .int (nI (i + 1 + se sn))), (5, .int (nI (se sn))), (0, .ref (a 0)), (1, .int (nI sn)), (2, .int (nI rn)), (3, .int (nI i)), (4, .int (nI g))]) hx hb dX8_on_71 hl (by decide) rfl (fun ls hl => ?_)
      refine lv_iload hx hb dX8_on_73 (lv_at hl 0 rfl) ?_
      refine lv_aload_n hx hb dX8_on_75 rfl (lv_at hl 4 rfl) ?_
      refine va_get (D := D) (ci := 8) (v := .ref (a 19)) (C := RX8) (T := TX8) (N := 44) hx hb hts inX8 hown hK hP 0 rfl rfl 18 (by decide) (hts _ tw_991) (fun _ h9 => h9) rfl dX8_on_76 ?_
      refine lv_iload_n hx hb dX8_on_79 rfl (lv_at hl 6 rfl) ?_
      refine lv_iload_n hx hb dX8_on_80 rfl (lv_at hl 7 rfl) ?_
      refine lv_iconst (v := 1) hx hb dX8_on_81 (by decide) ?_
      refine lv_iadd hx hb dX8_on_82 ?_
      refine lv_ti (y := (nI (i + 1))) (nI_add i 1) ?_
      refine lv_iload hx hb dX8_on_83 (lv_at hl 1 rfl) ?_
      refine lv_iconst (v := 1) hx hb dX8_on_85 (by decide) ?_
      refine lv_iload hx hb dX8_on_86 (lv_at hl 3 rfl) ?_
      obtain ⟨pw_13, epw_13⟩ : ∃ z : Nat, z = 2 ^ (se sn) := ⟨_, rfl⟩
      have hpw_13 : 1 ≤ pw_13 ∧ pw_13 ≤ 4 := by rw [epw_13]; exact pw4 (by omega)
      refine lv_ishl hx hb dX8_on_88 ?_
      refine lv_ti (y := (nI pw_13)) (by rw [epw_13]; exact shl1 (se sn) (by omega)) ?_
      obtain ⟨ov_14, hov_14, eov_14⟩ := or8 (g / 2) (by omega) pw_13 (by omega)
      refine lv_ior hx hb dX8_on_89 ?_
      refine lv_ti (y := (nI ov_14)) eov_14 ?_
      refine ro_i (D := D) (va_runS (As := [.int (nI rn), .int (nI (i + 1)), .int (nI ov_14)]) (rest := [.ref (a 19), .int r_12]) ⟨hx, hb, hml, hown, hts⟩ ((m_at l D k st lo rn (i + 1) ov_14) H.size) (va_cwS 3 hts (gS tw_1266 tw_1267 tw_87 tw_1268) rfl rfl rfl (by decide +kernel) ⟨Nat.le_of_ble_eq_true rfl, Nat.le_of_ble_eq_true rfl⟩) (pS hS hAlo hlo hP hK hDL hZ [] (by decide) rfl) rfl rfl hl.1 rfl (lv_room (Nat.le_of_ble_eq_true rfl)) dX8_on_90 ⟨Nat.le_of_ble_eq_true rfl, Nat.le_of_ble_eq_true rfl⟩) hS hA hP (fun r_15 H locs hw_15 hP hS => ?_)
      try dsimp only at hw_15
      subst hw_15
      refine va_iald hx hb hK hP 4 1 rfl rfl (vp_in_nI (by omega) (by decide)) dX8_on_93 ?_
      refine lv_ti (y := (fworths (192 * rn + 8 * (i + 1) + ov_14))) (by rw [nI_clamp (by omega)]) ?_
      refine lv_aload_n hx hb dX8_on_94 rfl (lv_at hl 4 rfl) ?_
      refine va_get (D := D) (ci := 8) (v := .ref (a 19)) (C := RX8) (T := TX8) (N := 44) hx hb hts inX8 hown hK hP 0 rfl rfl 18 (by decide) (hts _ tw_991) (fun _ h9 => h9) rfl dX8_on_95 ?_
      refine lv_iload_n hx hb dX8_on_98 rfl (lv_at hl 6 rfl) ?_
      refine lv_iload_n hx hb dX8_on_99 rfl (lv_at hl 7 rfl) ?_
      refine lv_iconst (v := 1) hx hb dX8_on_100 (by decide) ?_
      refine lv_iadd hx hb dX8_on_101 ?_
      refine lv_ti (y := (nI (i + 1))) (nI_add i 1) ?_
      refine lv_iload hx hb dX8_on_102 (lv_at hl 1 rfl) ?_
      refine ro_i (D := D) (va_runS (As := [.int (nI rn), .int (nI (i + 1)), .int (nI (g / 2))]) (rest := [.ref (a 19), .int (fworths (192 * rn + 8 * (i + 1) + ov_14)), .int r_12]) ⟨hx, hb, hml, hown, hts⟩ ((m_at l D k st lo rn (i + 1) (g / 2)) H.size) (va_cwS 3 hts (gS tw_1266 tw_1267 tw_87 tw_1268) rfl rfl rfl (by decide +kernel) ⟨Nat.le_of_ble_eq_true rfl, Nat.le_of_ble_eq_true rfl⟩) (pS hS hAlo hlo hP hK hDL hZ [] (by decide) rfl) rfl rfl hl.1 rfl (lv_room (Nat.le_of_ble_eq_true rfl)) dX8_on_104 ⟨Nat.le_of_ble_eq_true rfl, Nat.le_of_ble_eq_true rfl⟩) hS hA hP (fun r_16 H locs hw_16 hP hS => ?_)
      try dsimp only at hw_16
      subst hw_16
      refine va_iald hx hb hK hP 4 1 rfl rfl (vp_in_nI (by omega) (by decide)) dX8_on_107 ?_
      refine lv_ti (y := (fworths (192 * rn + 8 * (i + 1) + (g / 2)))) (by rw [nI_clamp (by omega)]) ?_
      refine ro_i (D := D) (va_runS (As := [.int r_12, .int (fworths (192 * rn + 8 * (i + 1) + ov_14)), .int (fworths (192 * rn + 8 * (i + 1) + (g / 2)))]) (rest := []) ⟨hx, hb, hml, hown, hts⟩ ((m_mixed l D k st lo r_12 (fworths (192 * rn + 8 * (i + 1) + ov_14)) (fworths (192 * rn + 8 * (i + 1) + (g / 2)))) H.size) (va_cwS 3 hts (gS tw_1269 tw_1270 tw_87 tw_1271) rfl rfl rfl (by decide +kernel) ⟨Nat.le_of_ble_eq_true rfl, Nat.le_of_ble_eq_true rfl⟩) (pS hS hAlo hlo hP hK hDL hZ [] (by decide) rfl) rfl rfl hl.1 rfl (lv_room (Nat.le_of_ble_eq_true rfl)) dX8_on_108 ⟨Nat.le_of_ble_eq_true rfl, Nat.le_of_ble_eq_true rfl⟩) hS hA hP (fun r_17 H locs hw_17 hP hS => ?_)
      try dsimp only at hw_17
      exact W.iret (v := r_17) hx hb hr (fun t ht hW => ⟨⟨r_17, (), rfl, trivial, trivial⟩, hS.F ht⟩) hS.2.2 dX8_on_111
  · have c_2 : ¬ ((i + 1 + se sn) < (dn sn)) := fun h => c_2 ((nI_ltI (a := (i + 1 + se sn)) (b := (dn sn)) (by omega) (by omega)).mpr h)
    refine lv_aload_n hx hb dX8_on_33 rfl (lv_at hl 3 rfl) ?_
    refine va_get (D := D) (ci := 8) (v := .ref (a 19)) (C := RX8) (T := TX8) (N := 44) hx hb hts inX8 hown hK hP 0 rfl rfl 18 (by decide) (hts _ tw_991) (fun _ h9 => h9) rfl dX8_on_34 ?_
    refine lv_iload_n hx hb dX8_on_37 rfl (lv_at hl 5 rfl) ?_
    refine lv_iload_n hx hb dX8_on_38 rfl (lv_at hl 6 rfl) ?_
    refine lv_iconst (v := 1) hx hb dX8_on_39 (by decide) ?_
    refine lv_iadd hx hb dX8_on_40 ?_
    refine lv_ti (y := (nI (i + 1))) (nI_add i 1) ?_
    refine lv_iload hx hb dX8_on_41 (lv_at hl 0 rfl) ?_
    refine ro_i (D := D) (va_runS (As := [.int (nI rn), .int (nI (i + 1)), .int (nI (g / 2))]) (rest := [.ref (a 19)]) ⟨hx, hb, hml, hown, hts⟩ ((m_at l D k st lo rn (i + 1) (g / 2)) H.size) (va_cwS 3 hts (gS tw_1266 tw_1267 tw_87 tw_1268) rfl rfl rfl (by decide +kernel) ⟨Nat.le_of_ble_eq_true rfl, Nat.le_of_ble_eq_true rfl⟩) (pS hS hAlo hlo hP hK hDL hZ [] (by decide) rfl) rfl rfl hl.1 rfl (lv_room (Nat.le_of_ble_eq_true rfl)) dX8_on_43 ⟨Nat.le_of_ble_eq_true rfl, Nat.le_of_ble_eq_true rfl⟩) hS hA hP (fun r_18 H locs hw_18 hP hS => ?_)
    try dsimp only at hw_18
    subst hw_18
    refine va_iald hx hb hK hP 4 1 rfl rfl (vp_in_nI (by omega) (by decide)) dX8_on_46 ?_
    refine lv_ti (y := (fworths (192 * rn + 8 * (i + 1) + (g / 2)))) (by rw [nI_clamp (by omega)]) ?_
    exact W.iret (v := (fworths (192 * rn + 8 * (i + 1) + (g / 2)))) hx hb hr (fun t ht hW => ⟨⟨(fworths (192 * rn + 8 * (i + 1) + (g / 2))), (), rfl, trivial, trivial⟩, hS.F ht⟩) hS.2.2 dX8_on_47


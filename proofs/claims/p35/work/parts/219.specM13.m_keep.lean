theorem dX8_keep_0 : decode cX8_keep 0 = .ok (.iload_n 1, 1) := by decide +kernel
theorem dX8_keep_1 : decode cX8_keep 1 = .ok (.i2l, 1) := by decide +kernel
theorem dX8_keep_2 : decode cX8_keep 2 = .ok (.lconst 0, 1) := by decide +kernel
theorem dX8_keep_3 : decode cX8_keep 3 = .ok (.lconst 1, 1) := by decide +kernel
theorem dX8_keep_4 : decode cX8_keep 4 = .ok (.invokestatic 107, 3) := by decide +kernel
theorem dX8_keep_7 : decode cX8_keep 7 = .ok (.ifCond .ne 7, 3) := by decide +kernel
theorem dX8_keep_10 : decode cX8_keep 10 = .ok (.sipush (-1001), 3) := by decide +kernel
theorem dX8_keep_13 : decode cX8_keep 13 = .ok (.ireturn, 1) := by decide +kernel
theorem dX8_keep_14 : decode cX8_keep 14 = .ok (.bipush 35, 2) := by decide +kernel
theorem dX8_keep_16 : decode cX8_keep 16 = .ok (.iload_n 1, 1) := by decide +kernel
theorem dX8_keep_17 : decode cX8_keep 17 = .ok (.imul, 1) := by decide +kernel
theorem dX8_keep_18 : decode cX8_keep 18 = .ok (.istore_n 2, 1) := by decide +kernel
theorem dX8_keep_19 : decode cX8_keep 19 = .ok (.aload_n 0, 1) := by decide +kernel
theorem dX8_keep_20 : decode cX8_keep 20 = .ok (.getfield 99, 3) := by decide +kernel
theorem dX8_keep_23 : decode cX8_keep 23 = .ok (.iload_n 2, 1) := by decide +kernel
theorem dX8_keep_24 : decode cX8_keep 24 = .ok (.aload_n 0, 1) := by decide +kernel
theorem dX8_keep_25 : decode cX8_keep 25 = .ok (.getfield 304, 3) := by decide +kernel
theorem dX8_keep_28 : decode cX8_keep 28 = .ok (.iastore, 1) := by decide +kernel
theorem dX8_keep_29 : decode cX8_keep 29 = .ok (.aload_n 0, 1) := by decide +kernel
theorem dX8_keep_30 : decode cX8_keep 30 = .ok (.getfield 99, 3) := by decide +kernel
theorem dX8_keep_33 : decode cX8_keep 33 = .ok (.iload_n 2, 1) := by decide +kernel
theorem dX8_keep_34 : decode cX8_keep 34 = .ok (.iconst 1, 1) := by decide +kernel
theorem dX8_keep_35 : decode cX8_keep 35 = .ok (.iadd, 1) := by decide +kernel
theorem dX8_keep_36 : decode cX8_keep 36 = .ok (.aload_n 0, 1) := by decide +kernel
theorem dX8_keep_37 : decode cX8_keep 37 = .ok (.getfield 315, 3) := by decide +kernel
theorem dX8_keep_40 : decode cX8_keep 40 = .ok (.iastore, 1) := by decide +kernel
theorem dX8_keep_41 : decode cX8_keep 41 = .ok (.aload_n 0, 1) := by decide +kernel
theorem dX8_keep_42 : decode cX8_keep 42 = .ok (.getfield 99, 3) := by decide +kernel
theorem dX8_keep_45 : decode cX8_keep 45 = .ok (.iload_n 2, 1) := by decide +kernel
theorem dX8_keep_46 : decode cX8_keep 46 = .ok (.iconst 2, 1) := by decide +kernel
theorem dX8_keep_47 : decode cX8_keep 47 = .ok (.iadd, 1) := by decide +kernel
theorem dX8_keep_48 : decode cX8_keep 48 = .ok (.aload_n 0, 1) := by decide +kernel
theorem dX8_keep_49 : decode cX8_keep 49 = .ok (.getfield 374, 3) := by decide +kernel
theorem dX8_keep_52 : decode cX8_keep 52 = .ok (.iastore, 1) := by decide +kernel
theorem dX8_keep_53 : decode cX8_keep 53 = .ok (.iconst 0, 1) := by decide +kernel
theorem dX8_keep_54 : decode cX8_keep 54 = .ok (.istore_n 3, 1) := by decide +kernel
theorem dX8_keep_55 : decode cX8_keep 55 = .ok (.iload_n 3, 1) := by decide +kernel
theorem dX8_keep_56 : decode cX8_keep 56 = .ok (.bipush 24, 2) := by decide +kernel
theorem dX8_keep_58 : decode cX8_keep 58 = .ok (.if_icmp .ge 33, 3) := by decide +kernel
theorem dX8_keep_61 : decode cX8_keep 61 = .ok (.aload_n 0, 1) := by decide +kernel
theorem dX8_keep_62 : decode cX8_keep 62 = .ok (.getfield 99, 3) := by decide +kernel
theorem dX8_keep_65 : decode cX8_keep 65 = .ok (.iload_n 2, 1) := by decide +kernel
theorem dX8_keep_66 : decode cX8_keep 66 = .ok (.iconst 3, 1) := by decide +kernel
theorem dX8_keep_67 : decode cX8_keep 67 = .ok (.iadd, 1) := by decide +kernel
theorem dX8_keep_68 : decode cX8_keep 68 = .ok (.iload_n 3, 1) := by decide +kernel
theorem dX8_keep_69 : decode cX8_keep 69 = .ok (.iadd, 1) := by decide +kernel
theorem dX8_keep_70 : decode cX8_keep 70 = .ok (.aload_n 0, 1) := by decide +kernel
theorem dX8_keep_71 : decode cX8_keep 71 = .ok (.getfield 75, 3) := by decide +kernel
theorem dX8_keep_74 : decode cX8_keep 74 = .ok (.iload_n 3, 1) := by decide +kernel
theorem dX8_keep_75 : decode cX8_keep 75 = .ok (.baload, 1) := by decide +kernel
theorem dX8_keep_76 : decode cX8_keep 76 = .ok (.ifCond .eq 7, 3) := by decide +kernel
theorem dX8_keep_79 : decode cX8_keep 79 = .ok (.iconst 1, 1) := by decide +kernel
theorem dX8_keep_80 : decode cX8_keep 80 = .ok (.goto 4, 3) := by decide +kernel
theorem dX8_keep_83 : decode cX8_keep 83 = .ok (.iconst 0, 1) := by decide +kernel
theorem dX8_keep_84 : decode cX8_keep 84 = .ok (.iastore, 1) := by decide +kernel
theorem dX8_keep_85 : decode cX8_keep 85 = .ok (.iinc 3 1, 3) := by decide +kernel
theorem dX8_keep_88 : decode cX8_keep 88 = .ok (.goto (-33), 3) := by decide +kernel
theorem dX8_keep_91 : decode cX8_keep 91 = .ok (.iconst 0, 1) := by decide +kernel
theorem dX8_keep_92 : decode cX8_keep 92 = .ok (.istore_n 3, 1) := by decide +kernel
theorem dX8_keep_93 : decode cX8_keep 93 = .ok (.iload_n 3, 1) := by decide +kernel
theorem dX8_keep_94 : decode cX8_keep 94 = .ok (.iconst 4, 1) := by decide +kernel
theorem dX8_keep_95 : decode cX8_keep 95 = .ok (.if_icmp .ge 43, 3) := by decide +kernel
theorem dX8_keep_98 : decode cX8_keep 98 = .ok (.aload_n 0, 1) := by decide +kernel
theorem dX8_keep_99 : decode cX8_keep 99 = .ok (.getfield 99, 3) := by decide +kernel
theorem dX8_keep_102 : decode cX8_keep 102 = .ok (.iload_n 2, 1) := by decide +kernel
theorem dX8_keep_103 : decode cX8_keep 103 = .ok (.bipush 27, 2) := by decide +kernel
theorem dX8_keep_105 : decode cX8_keep 105 = .ok (.iadd, 1) := by decide +kernel
theorem dX8_keep_106 : decode cX8_keep 106 = .ok (.iload_n 3, 1) := by decide +kernel
theorem dX8_keep_107 : decode cX8_keep 107 = .ok (.iadd, 1) := by decide +kernel
theorem dX8_keep_108 : decode cX8_keep 108 = .ok (.aload_n 0, 1) := by decide +kernel
theorem dX8_keep_109 : decode cX8_keep 109 = .ok (.getfield 84, 3) := by decide +kernel
theorem dX8_keep_112 : decode cX8_keep 112 = .ok (.iload_n 3, 1) := by decide +kernel
theorem dX8_keep_113 : decode cX8_keep 113 = .ok (.iaload, 1) := by decide +kernel
theorem dX8_keep_114 : decode cX8_keep 114 = .ok (.iastore, 1) := by decide +kernel
theorem dX8_keep_115 : decode cX8_keep 115 = .ok (.aload_n 0, 1) := by decide +kernel
theorem dX8_keep_116 : decode cX8_keep 116 = .ok (.getfield 99, 3) := by decide +kernel
theorem dX8_keep_119 : decode cX8_keep 119 = .ok (.iload_n 2, 1) := by decide +kernel
theorem dX8_keep_120 : decode cX8_keep 120 = .ok (.bipush 31, 2) := by decide +kernel
theorem dX8_keep_122 : decode cX8_keep 122 = .ok (.iadd, 1) := by decide +kernel
theorem dX8_keep_123 : decode cX8_keep 123 = .ok (.iload_n 3, 1) := by decide +kernel
theorem dX8_keep_124 : decode cX8_keep 124 = .ok (.iadd, 1) := by decide +kernel
theorem dX8_keep_125 : decode cX8_keep 125 = .ok (.aload_n 0, 1) := by decide +kernel
theorem dX8_keep_126 : decode cX8_keep 126 = .ok (.getfield 87, 3) := by decide +kernel
theorem dX8_keep_129 : decode cX8_keep 129 = .ok (.iload_n 3, 1) := by decide +kernel
theorem dX8_keep_130 : decode cX8_keep 130 = .ok (.iaload, 1) := by decide +kernel
theorem dX8_keep_131 : decode cX8_keep 131 = .ok (.iastore, 1) := by decide +kernel
theorem dX8_keep_132 : decode cX8_keep 132 = .ok (.iinc 3 1, 3) := by decide +kernel
theorem dX8_keep_135 : decode cX8_keep 135 = .ok (.goto (-42), 3) := by decide +kernel
theorem dX8_keep_138 : decode cX8_keep 138 = .ok (.aload_n 0, 1) := by decide +kernel
theorem dX8_keep_139 : decode cX8_keep 139 = .ok (.getfield 96, 3) := by decide +kernel
theorem dX8_keep_142 : decode cX8_keep 142 = .ok (.iload_n 1, 1) := by decide +kernel
theorem dX8_keep_143 : decode cX8_keep 143 = .ok (.iconst 1, 1) := by decide +kernel
theorem dX8_keep_144 : decode cX8_keep 144 = .ok (.bastore, 1) := by decide +kernel
theorem dX8_keep_145 : decode cX8_keep 145 = .ok (.iconst 1, 1) := by decide +kernel
theorem dX8_keep_146 : decode cX8_keep 146 = .ok (.ireturn, 1) := by decide +kernel
set_option maxHeartbeats 4000000 in
set_option maxRecDepth 100000 in
theorem m_keep (l : Launch) (D : va_G) (k : Nat → ClassId) (st : Nat → Nat) (lo : Nat) (a : Nat → Nat) (tx : Nat) (t0 : Nat) (we : Nat) (rd : Nat) (ru : Nat) (rw : Nat) (ca : Nat) (fp : Int32) (wd : Int64) (nu : Int32) (na : Int32) (ts : Int32) (df : Int32) (db : Int32) (sd : Int32) (frow : Nat → Int32) (fwalks : Nat → Int32) (br : Nat → Nat) (fisKept : Nat → Int32) (fimages : Nat → Int32) (pz : Int32) (hrw : rw ≤ 24) (hca : ca ≤ 4) (hbr : ∀ j, br j ≤ 24) (him : imOK fimages) : CWi l D k st lo yX8_keep cX8_keep 4 (some .int) ({ frames := 1, cells := 0, slots := 0, locals := 25 }) 0 0 [.ref (a 0), .int pz] [((a 0), .inr (8, [.ref (a 1), .ref (a 2), .ref (a 3), .ref (a 4), .ref (a 5), .int (nI tx), .int fp, .int (nI t0), .long wd, .int (nI we), .int nu, .int na, .int (nI rd), .ref (a 14), .ref (a 15), .ref (a 16), .int ts, .ref (a 18), .ref (a 19), .ref (a 20), .ref (a 21), .ref (a 22), .ref (a 23), .int (nI ru), .ref (a 25), .ref (a 26), .ref (a 27), .ref (a 28), .ref (a 29), .ref (a 30), .int (nI rw), .ref (a 32), .ref (a 33), .ref (a 34), .int (nI ca), .ref (a 36), .ref (a 37), .int df, .int db, .ref (a 40), .ref (a 41), .int sd, .ref (a 43), .ref (a 44)])), ((a 32), .inl (k 2, 24, .inl frow)), ((a 36), .inl (k 1, 4, .inl fwalks)), ((a 37), .inl (k 1, 4, .inl (nF br))), ((a 43), .inl (k 2, 2, .inl fisKept)), ((a 44), .inl (k 1, 70, .inl fimages))] (fun (r : Int32) (u : (Nat → Int32) × (Nat → Int32)) => match u with | (fisKept_, fimages_) => imOK fimages_ ∧ (inB pz 0 1 → r = 1) ∧ (¬ inB pz 0 1 → r = -1001)) (fun (u : (Nat → Int32) × (Nat → Int32)) => match u with | (fisKept_, fimages_) => [((a 0), .inr (8, [.ref (a 1), .ref (a 2), .ref (a 3), .ref (a 4), .ref (a 5), .int (nI tx), .int fp, .int (nI t0), .long wd, .int (nI we), .int nu, .int na, .int (nI rd), .ref (a 14), .ref (a 15), .ref (a 16), .int ts, .ref (a 18), .ref (a 19), .ref (a 20), .ref (a 21), .ref (a 22), .ref (a 23), .int (nI ru), .ref (a 25), .ref (a 26), .ref (a 27), .ref (a 28), .ref (a 29), .ref (a 30), .int (nI rw), .ref (a 32), .ref (a 33), .ref (a 34), .int (nI ca), .ref (a 36), .ref (a 37), .int df, .int db, .ref (a 40), .ref (a 41), .int sd, .ref (a 43), .ref (a 44)])), ((a 32), .inl (k 2, 24, .inl frow)), ((a 36), .inl (k 1, 4, .inl fwalks)), ((a 37), .inl (k 1, 4, .inl (nF br))), ((a 43), .inl (k 2, 2, .inl fisKept_)), ((a 44), .inl (k 1, 70, .inl fimages_))]) := by
  intro sz
  refine Met.ofW (cc := cX8_keep) (maxL := 4) (ret := (some .int)) (by decide) rfl ?_
  intro p e s m args below meth c s₁ B hml hv
  obtain ⟨rfl, hsz, hlo, hP, hK, hDL, hZ⟩ := hv
  have hx := B.exec
  have hb := B.bytes
  have hr := B.returns
  have hts := WS_ts B.pre
  have hown : s.vm.findClass RX8 = some m.cls := findClass_of_methodNamed B.named
  have hlocks := B.notSynchronized
  subst hsz
  have hD := hDL.self (sz := s.heap.size)
  have hAlo := A_lo hDL hlo
  generalize hAe : va_A [((a 0), .inr (8, [.ref (a 1), .ref (a 2), .ref (a 3), .ref (a 4), .ref (a 5), .int (nI tx), .int fp, .int (nI t0), .long wd, .int (nI we), .int nu, .int na, .int (nI rd), .ref (a 14), .ref (a 15), .ref (a 16), .int ts, .ref (a 18), .ref (a 19), .ref (a 20), .ref (a 21), .ref (a 22), .ref (a 23), .int (nI ru), .ref (a 25), .ref (a 26), .ref (a 27), .ref (a 28), .ref (a 29), .ref (a 30), .int (nI rw), .ref (a 32), .ref (a 33), .ref (a 34), .int (nI ca), .ref (a 36), .ref (a 37), .int df, .int db, .ref (a 40), .ref (a 41), .int sd, .ref (a 43), .ref (a 44)])), ((a 32), .inl (k 2, 24, .inl frow)), ((a 36), .inl (k 1, 4, .inl fwalks)), ((a 37), .inl (k 1, 4, .inl (nF br))), ((a 43), .inl (k 2, 2, .inl fisKept)), ((a 44), .inl (k 1, 70, .inl fimages))] s.heap.size = A at hD hAlo ⊢
  have hA : ∀ q : Nat, s.heap.size ≤ q → A q := fun q h => by rw [← hAe]; exact Or.inr h
  have hS : va_S A s.heap s.heap [] := va_S.rf
  have hl := lv_entry ([.ref (a 0), .int pz]) (n := 4) (Nat.le_of_ble_eq_true rfl)
  rw [lg_entry_eq]
  generalize (lg_sl ([.ref (a 0), .int pz]) ++ List.replicate (4 - (lg_sl ([.ref (a 0), .int pz])).length) Slot.unset).toArray = ls at hl ⊢
  have hl : lv_has ls 4 [(0, .ref (a 0)), (1, .int pz)] := hl
  refine lv_iload_n hx hb dX8_keep_0 rfl (lv_at hl 1 rfl) ?_
  refine lv_i2l (v := pz.toInt64) hx hb dX8_keep_1 rfl ?_
  refine lv_lconst (v := (0 : Int32).toInt64) hx hb dX8_keep_2 (by decide) ?_
  refine lv_lconst (v := (1 : Int32).toInt64) hx hb dX8_keep_3 (by decide) ?_
  refine ro_i (D := D) (va_runS (As := [.long (pz.toInt64), .long ((0 : Int32).toInt64), .long ((1 : Int32).toInt64)]) (rest := []) ⟨hx, hb, hml, hown, hts⟩ ((k_in l D k st lo pz (0 : Int32) (1 : Int32)) s.heap.size) (va_cwS 3 hts (gS tw_1111 tw_1112 tw_87 tw_1113) rfl rfl rfl (by decide +kernel) ⟨Nat.le_of_ble_eq_true rfl, Nat.le_of_ble_eq_true rfl⟩) (pS hS hAlo hlo hP hK (va_Dlo hD hAlo) hZ [] (by decide) rfl) rfl rfl hl.1 rfl (lv_room (Nat.le_of_ble_eq_true rfl)) dX8_keep_4 ⟨Nat.le_of_ble_eq_true rfl, Nat.le_of_ble_eq_true rfl⟩) hS hA hP (fun r_1 H locs hw_1 hP hS => ?_)
  try dsimp only at hw_1
  rcases hw_1 with ⟨rfl, hw_1⟩ | ⟨rfl, hw_1⟩
  · refine lv_if_ne (tgt := 14) hx hb dX8_keep_7 (by decide) (fun _ => ?_) (fun h => absurd h (by decide))
    obtain ⟨nb_2, hnl_2, hnh_2, rfl⟩ := inB_ofc (a := 0) (b := 1) (by omega) (by omega) hw_1
    refine lv_bipush (v := 35) hx hb dX8_keep_14 (by decide) ?_
    refine lv_iload_n hx hb dX8_keep_16 rfl (lv_at hl 1 rfl) ?_
    refine lv_imul hx hb dX8_keep_17 ?_
    refine lv_ti (y := (nI (35 * nb_2))) (pk_mul 35 nb_2) ?_
    refine lv_istore_n (lv' := [(2, .int (nI (35 * nb_2))), (0, .ref (a 0)), (1, .int (nI nb_2))]) hx hb dX8_keep_18 rfl hl (by decide) rfl (fun ls hl => ?_)
    refine lv_aload_n hx hb dX8_keep_19 rfl (lv_at hl 1 rfl) ?_
    refine va_get (D := D) (ci := 8) (v := .ref (a 44)) (C := RX8) (T := TX8) (N := 44) hx hb hts inX8 hown hK hP 0 rfl rfl 43 (by decide) (hts _ tw_1016) (fun _ h9 => h9) rfl dX8_keep_20 ?_
    refine lv_iload_n hx hb dX8_keep_23 rfl (lv_at hl 0 rfl) ?_
    refine lv_aload_n hx hb dX8_keep_24 rfl (lv_at hl 1 rfl) ?_
    refine va_get (D := D) (ci := 8) (v := .int (nI rw)) (C := RX8) (T := TX8) (N := 44) hx hb hts inX8 hown hK hP 0 rfl rfl 30 (by decide) (hts _ tw_1003) (fun _ h9 => h9) rfl dX8_keep_25 ?_
    refine va_iast hx hb hK hP hD hS 5 1 rfl rfl (vp_in_nI (by omega) (by decide)) dX8_keep_28 (fun H locs hP hD hS => ?_)
    replace hP : va_P D classes [((a 0), .inr (8, [.ref (a 1), .ref (a 2), .ref (a 3), .ref (a 4), .ref (a 5), .int (nI tx), .int fp, .int (nI t0), .long wd, .int (nI we), .int nu, .int na, .int (nI rd), .ref (a 14), .ref (a 15), .ref (a 16), .int ts, .ref (a 18), .ref (a 19), .ref (a 20), .ref (a 21), .ref (a 22), .ref (a 23), .int (nI ru), .ref (a 25), .ref (a 26), .ref (a 27), .ref (a 28), .ref (a 29), .ref (a 30), .int (nI rw), .ref (a 32), .ref (a 33), .ref (a 34), .int (nI ca), .ref (a 36), .ref (a 37), .int df, .int db, .ref (a 40), .ref (a 41), .int sd, .ref (a 43), .ref (a 44)])), ((a 32), .inl (k 2, 24, .inl frow)), ((a 36), .inl (k 1, 4, .inl fwalks)), ((a 37), .inl (k 1, 4, .inl (nF br))), ((a 43), .inl (k 2, 2, .inl fisKept)), ((a 44), .inl (k 1, 70, .inl (upd fimages (Int32.toNatClampNeg (nI (35 * nb_2))) (nI rw))))] H := hP
    replace hD : va_D A [((a 0), .inr (8, [.ref (a 1), .ref (a 2), .ref (a 3), .ref (a 4), .ref (a 5), .int (nI tx), .int fp, .int (nI t0), .long wd, .int (nI we), .int nu, .int na, .int (nI rd), .ref (a 14), .ref (a 15), .ref (a 16), .int ts, .ref (a 18), .ref (a 19), .ref (a 20), .ref (a 21), .ref (a 22), .ref (a 23), .int (nI ru), .ref (a 25), .ref (a 26), .ref (a 27), .ref (a 28), .ref (a 29), .ref (a 30), .int (nI rw), .ref (a 32), .ref (a 33), .ref (a 34), .int (nI ca), .ref (a 36), .ref (a 37), .int df, .int db, .ref (a 40), .ref (a 41), .int sd, .ref (a 43), .ref (a 44)])), ((a 32), .inl (k 2, 24, .inl frow)), ((a 36), .inl (k 1, 4, .inl fwalks)), ((a 37), .inl (k 1, 4, .inl (nF br))), ((a 43), .inl (k 2, 2, .inl fisKept)), ((a 44), .inl (k 1, 70, .inl (upd fimages (Int32.toNatClampNeg (nI (35 * nb_2))) (nI rw))))] := hD
    rw [nI_clamp (n := (35 * nb_2)) (by omega)] at hP hD
    replace hP : va_P D classes [((a 0), .inr (8, [.ref (a 1), .ref (a 2), .ref (a 3), .ref (a 4), .ref (a 5), .int (nI tx), .int fp, .int (nI t0), .long wd, .int (nI we), .int nu, .int na, .int (nI rd), .ref (a 14), .ref (a 15), .ref (a 16), .int ts, .ref (a 18), .ref (a 19), .ref (a 20), .ref (a 21), .ref (a 22), .ref (a 23), .int (nI ru), .ref (a 25), .ref (a 26), .ref (a 27), .ref (a 28), .ref (a 29), .ref (a 30), .int (nI rw), .ref (a 32), .ref (a 33), .ref (a 34), .int (nI ca), .ref (a 36), .ref (a 37), .int df, .int db, .ref (a 40), .ref (a 41), .int sd, .ref (a 43), .ref (a 44)])), ((a 32), .inl (k 2, 24, .inl frow)), ((a 36), .inl (k 1, 4, .inl fwalks)), ((a 37), .inl (k 1, 4, .inl (nF br))), ((a 43), .inl (k 2, 2, .inl fisKept)), ((a 44), .inl (k 1, 70, .inl (upd fimages (35 * nb_2) (nI rw))))] H := hP
    replace hD : va_D A [((a 0), .inr (8, [.ref (a 1), .ref (a 2), .ref (a 3), .ref (a 4), .ref (a 5), .int (nI tx), .int fp, .int (nI t0), .long wd, .int (nI we), .int nu, .int na, .int (nI rd), .ref (a 14), .ref (a 15), .ref (a 16), .int ts, .ref (a 18), .ref (a 19), .ref (a 20), .ref (a 21), .ref (a 22), .ref (a 23), .int (nI ru), .ref (a 25), .ref (a 26), .ref (a 27), .ref (a 28), .ref (a 29), .ref (a 30), .int (nI rw), .ref (a 32), .ref (a 33), .ref (a 34), .int (nI ca), .ref (a 36), .ref (a 37), .int df, .int db, .ref (a 40), .ref (a 41), .int sd, .ref (a 43), .ref (a 44)])), ((a 32), .inl (k 2, 24, .inl frow)), ((a 36), .inl (k 1, 4, .inl fwalks)), ((a 37), .inl (k 1, 4, .inl (nF br))), ((a 43), .inl (k 2, 2, .inl fisKept)), ((a 44), .inl (k 1, 70, .inl (upd fimages (35 * nb_2) (nI rw))))] := hD
    have him_4 : imOK (upd fimages (35 * nb_2) (nI rw)) := imOK_upd him (35 * nb_2) (nI rw) ⟨fun _ => ⟨rw, by omega, rfl⟩, fun h => absurd h (by omega), fun h => absurd h (by omega)⟩
    generalize (upd fimages (35 * nb_2) (nI rw)) = f_4 at hP hD him_4
    refine lv_aload_n hx hb dX8_keep_29 rfl (lv_at hl 1 rfl) ?_
    refine va_get (D := D) (ci := 8) (v := .ref (a 44)) (C := RX8) (T := TX8) (N := 44) hx hb hts inX8 hown hK hP 0 rfl rfl 43 (by decide) (hts _ tw_1016) (fun _ h9 => h9) rfl dX8_keep_30 ?_
    refine lv_iload_n hx hb dX8_keep_33 rfl (lv_at hl 0 rfl) ?_
    refine lv_iconst (v := 1) hx hb dX8_keep_34 (by decide) ?_
    refine lv_iadd hx hb dX8_keep_35 ?_
    refine lv_ti (y := (nI (35 * nb_2 + 1))) (nI_add (35 * nb_2) 1) ?_
    refine lv_aload_n hx hb dX8_keep_36 rfl (lv_at hl 1 rfl) ?_
    refine va_get (D := D) (ci := 8) (v := .int (nI ca)) (C := RX8) (T := TX8) (N := 44) hx hb hts inX8 hown hK hP 0 rfl rfl 34 (by decide) (hts _ tw_1007) (fun _ h9 => h9) rfl dX8_keep_37 ?_
    refine va_iast hx hb hK hP hD hS 5 1 rfl rfl (vp_in_nI (by omega) (by decide)) dX8_keep_40 (fun H locs hP hD hS => ?_)
    replace hP : va_P D classes [((a 0), .inr (8, [.ref (a 1), .ref (a 2), .ref (a 3), .ref (a 4), .ref (a 5), .int (nI tx), .int fp, .int (nI t0), .long wd, .int (nI we), .int nu, .int na, .int (nI rd), .ref (a 14), .ref (a 15), .ref (a 16), .int ts, .ref (a 18), .ref (a 19), .ref (a 20), .ref (a 21), .ref (a 22), .ref (a 23), .int (nI ru), .ref (a 25), .ref (a 26), .ref (a 27), .ref (a 28), .ref (a 29), .ref (a 30), .int (nI rw), .ref (a 32), .ref (a 33), .ref (a 34), .int (nI ca), .ref (a 36), .ref (a 37), .int df, .int db, .ref (a 40), .ref (a 41), .int sd, .ref (a 43), .ref (a 44)])), ((a 32), .inl (k 2, 24, .inl frow)), ((a 36), .inl (k 1, 4, .inl fwalks)), ((a 37), .inl (k 1, 4, .inl (nF br))), ((a 43), .inl (k 2, 2, .inl fisKept)), ((a 44), .inl (k 1, 70, .inl (upd f_4 (Int32.toNatClampNeg (nI (35 * nb_2 + 1))) (nI ca))))] H := hP
    replace hD : va_D A [((a 0), .inr (8, [.ref (a 1), .ref (a 2), .ref (a 3), .ref (a 4), .ref (a 5), .int (nI tx), .int fp, .int (nI t0), .long wd, .int (nI we), .int nu, .int na, .int (nI rd), .ref (a 14), .ref (a 15), .ref (a 16), .int ts, .ref (a 18), .ref (a 19), .ref (a 20), .ref (a 21), .ref (a 22), .ref (a 23), .int (nI ru), .ref (a 25), .ref (a 26), .ref (a 27), .ref (a 28), .ref (a 29), .ref (a 30), .int (nI rw), .ref (a 32), .ref (a 33), .ref (a 34), .int (nI ca), .ref (a 36), .ref (a 37), .int df, .int db, .ref (a 40), .ref (a 41), .int sd, .ref (a 43), .ref (a 44)])), ((a 32), .inl (k 2, 24, .inl frow)), ((a 36), .inl (k 1, 4, .inl fwalks)), ((a 37), .inl (k 1, 4, .inl (nF br))), ((a 43), .inl (k 2, 2, .inl fisKept)), ((a 44), .inl (k 1, 70, .inl (upd f_4 (Int32.toNatClampNeg (nI (35 * nb_2 + 1))) (nI ca))))] := hD
    rw [nI_clamp (n := (35 * nb_2 + 1)) (by omega)] at hP hD
    replace hP : va_P D classes [((a 0), .inr (8, [.ref (a 1), .ref (a 2), .ref (a 3), .ref (a 4), .ref (a 5), .int (nI tx), .int fp, .int (nI t0), .long wd, .int (nI we), .int nu, .int na, .int (nI rd), .ref (a 14), .ref (a 15), .ref (a 16), .int ts, .ref (a 18), .ref (a 19), .ref (a 20), .ref (a 21), .ref (a 22), .ref (a 23), .int (nI ru), .ref (a 25), .ref (a 26), .ref (a 27), .ref (a 28), .ref (a 29), .ref (a 30), .int (nI rw), .ref (a 32), .ref (a 33), .ref (a 34), .int (nI ca), .ref (a 36), .ref (a 37), .int df, .int db, .ref (a 40), .ref (a 41), .int sd, .ref (a 43), .ref (a 44)])), ((a 32), .inl (k 2, 24, .inl frow)), ((a 36), .inl (k 1, 4, .inl fwalks)), ((a 37), .inl (k 1, 4, .inl (nF br))), ((a 43), .inl (k 2, 2, .inl fisKept)), ((a 44), .inl (k 1, 70, .inl (upd f_4 (35 * nb_2 + 1) (nI ca))))] H := hP
    replace hD : va_D A [((a 0), .inr (8, [.ref (a 1), .ref (a 2), .ref (a 3), .ref (a 4), .ref (a 5), .int (nI tx), .int fp, .int (nI t0), .long wd, .int (nI we), .int nu, .int na, .int (nI rd), .ref (a 14), .ref (a 15), .ref (a 16), .int ts, .ref (a 18), .ref (a 19), .ref (a 20), .ref (a 21), .ref (a 22), .ref (a 23), .int (nI ru), .ref (a 25), .ref (a 26), .ref (a 27), .ref (a 28), .ref (a 29), .ref (a 30), .int (nI rw), .ref (a 32), .ref (a 33), .ref (a 34), .int (nI ca), .ref (a 36), .ref (a 37), .int df, .int db, .ref (a 40), .ref (a 41), .int sd, .ref (a 43), .ref (a 44)])), ((a 32), .inl (k 2, 24, .inl frow)), ((a 36), .inl (k 1, 4, .inl fwalks)), ((a 37), .inl (k 1, 4, .inl (nF br))), ((a 43), .inl (k 2, 2, .inl fisKept)), ((a 44), .inl (k 1, 70, .inl (upd f_4 (35 * nb_2 + 1) (nI ca))))] := hD
    have him_6 : imOK (upd f_4 (35 * nb_2 + 1) (nI ca)) := imOK_upd him_4 (35 * nb_2 + 1) (nI ca) ⟨fun h => absurd h (by omega), fun _ => ⟨ca, by omega, rfl⟩, fun h => absurd h (by omega)⟩
    generalize (upd f_4 (35 * nb_2 + 1) (nI ca)) = f_6 at hP hD him_6
    refine lv_aload_n hx hb dX8_keep_41 rfl (lv_at hl 1 rfl) ?_
    refine va_get (D := D) (ci := 8) (v := .ref (a 44)) (C := RX8) (T := TX8) (N := 44) hx hb hts inX8 hown hK hP 0 rfl rfl 43 (by decide) (hts _ tw_1016) (fun _ h9 => h9) rfl dX8_keep_42 ?_
    refine lv_iload_n hx hb dX8_keep_45 rfl (lv_at hl 0 rfl) ?_
    refine lv_iconst (v := 2) hx hb dX8_keep_46 (by decide) ?_
    refine lv_iadd hx hb dX8_keep_47 ?_
    refine lv_ti (y := (nI (35 * nb_2 + 2))) (nI_add (35 * nb_2) 2) ?_
    refine lv_aload_n hx hb dX8_keep_48 rfl (lv_at hl 1 rfl) ?_
    refine va_get (D := D) (ci := 8) (v := .int sd) (C := RX8) (T := TX8) (N := 44) hx hb hts inX8 hown hK hP 0 rfl rfl 41 (by decide) (hts _ tw_1014) (fun _ h9 => h9) rfl dX8_keep_49 ?_
    refine va_iast hx hb hK hP hD hS 5 1 rfl rfl (vp_in_nI (by omega) (by decide)) dX8_keep_52 (fun H locs hP hD hS => ?_)
    replace hP : va_P D classes [((a 0), .inr (8, [.ref (a 1), .ref (a 2), .ref (a 3), .ref (a 4), .ref (a 5), .int (nI tx), .int fp, .int (nI t0), .long wd, .int (nI we), .int nu, .int na, .int (nI rd), .ref (a 14), .ref (a 15), .ref (a 16), .int ts, .ref (a 18), .ref (a 19), .ref (a 20), .ref (a 21), .ref (a 22), .ref (a 23), .int (nI ru), .ref (a 25), .ref (a 26), .ref (a 27), .ref (a 28), .ref (a 29), .ref (a 30), .int (nI rw), .ref (a 32), .ref (a 33), .ref (a 34), .int (nI ca), .ref (a 36), .ref (a 37), .int df, .int db, .ref (a 40), .ref (a 41), .int sd, .ref (a 43), .ref (a 44)])), ((a 32), .inl (k 2, 24, .inl frow)), ((a 36), .inl (k 1, 4, .inl fwalks)), ((a 37), .inl (k 1, 4, .inl (nF br))), ((a 43), .inl (k 2, 2, .inl fisKept)), ((a 44), .inl (k 1, 70, .inl (upd f_6 (Int32.toNatClampNeg (nI (35 * nb_2 + 2))) sd)))] H := hP
    replace hD : va_D A [((a 0), .inr (8, [.ref (a 1), .ref (a 2), .ref (a 3), .ref (a 4), .ref (a 5), .int (nI tx), .int fp, .int (nI t0), .long wd, .int (nI we), .int nu, .int na, .int (nI rd), .ref (a 14), .ref (a 15), .ref (a 16), .int ts, .ref (a 18), .ref (a 19), .ref (a 20), .ref (a 21), .ref (a 22), .ref (a 23), .int (nI ru), .ref (a 25), .ref (a 26), .ref (a 27), .ref (a 28), .ref (a 29), .ref (a 30), .int (nI rw), .ref (a 32), .ref (a 33), .ref (a 34), .int (nI ca), .ref (a 36), .ref (a 37), .int df, .int db, .ref (a 40), .ref (a 41), .int sd, .ref (a 43), .ref (a 44)])), ((a 32), .inl (k 2, 24, .inl frow)), ((a 36), .inl (k 1, 4, .inl fwalks)), ((a 37), .inl (k 1, 4, .inl (nF br))), ((a 43), .inl (k 2, 2, .inl fisKept)), ((a 44), .inl (k 1, 70, .inl (upd f_6 (Int32.toNatClampNeg (nI (35 * nb_2 + 2))) sd)))] := hD
    rw [nI_clamp (n := (35 * nb_2 + 2)) (by omega)] at hP hD
    replace hP : va_P D classes [((a 0), .inr (8, [.ref (a 1), .ref (a 2), .ref (a 3), .ref (a 4), .ref (a 5), .int (nI tx), .int fp, .int (nI t0), .long wd, .int (nI we), .int nu, .int na, .int (nI rd), .ref (a 14), .ref (a 15), .ref (a 16), .int ts, .ref (a 18), .ref (a 19), .ref (a 20), .ref (a 21), .ref (a 22), .ref (a 23), .int (nI ru), .ref (a 25), .ref (a 26), .ref (a 27), .ref (a 28), .ref (a 29), .ref (a 30), .int (nI rw), .ref (a 32), .ref (a 33), .ref (a 34), .int (nI ca), .ref (a 36), .ref (a 37), .int df, .int db, .ref (a 40), .ref (a 41), .int sd, .ref (a 43), .ref (a 44)])), ((a 32), .inl (k 2, 24, .inl frow)), ((a 36), .inl (k 1, 4, .inl fwalks)), ((a 37), .inl (k 1, 4, .inl (nF br))), ((a 43), .inl (k 2, 2, .inl fisKept)), ((a 44), .inl (k 1, 70, .inl (upd f_6 (35 * nb_2 + 2) sd)))] H := hP
    replace hD : va_D A [((a 0), .inr (8, [.ref (a 1), .ref (a 2), .ref (a 3), .ref (a 4), .ref (a 5), .int (nI tx), .int fp, .int (nI t0), .long wd, .int (nI we), .int nu, .int na, .int (nI rd), .ref (a 14), .ref (a 15), .ref (a 16), .int ts, .ref (a 18), .ref (a 19), .ref (a 20), .ref (a 21), .ref (a 22), .ref (a 23), .int (nI ru), .ref (a 25), .ref (a 26), .ref (a 27), .ref (a 28), .ref (a 29), .ref (a 30), .int (nI rw), .ref (a 32), .ref (a 33), .ref (a 34), .int (nI ca), .ref (a 36), .ref (a 37), .int df, .int db, .ref (a 40), .ref (a 41), .int sd, .ref (a 43), .ref (a 44)])), ((a 32), .inl (k 2, 24, .inl frow)), ((a 36), .inl (k 1, 4, .inl fwalks)), ((a 37), .inl (k 1, 4, .inl (nF br))), ((a 43), .inl (k 2, 2, .inl fisKept)), ((a 44), .inl (k 1, 70, .inl (upd f_6 (35 * nb_2 + 2) sd)))] := hD
    have him_8 : imOK (upd f_6 (35 * nb_2 + 2) sd) := imOK_upd him_6 (35 * nb_2 + 2) sd ⟨fun h => absurd h (by omega), fun h => absurd h (by omega), fun h => absurd h (by omega)⟩
    generalize (upd f_6 (35 * nb_2 + 2) sd) = f_8 at hP hD him_8
    refine lv_iconst (v := 0) hx hb dX8_keep_53 (by decide) ?_
    refine lv_istore_n (lv' := [(3, .int 0), (2, .int (nI (35 * nb_2))), (0, .ref (a 0)), (1, .int (nI nb_2))]) hx hb dX8_keep_54 rfl hl (by decide) rfl (fun ls hl => ?_)
    refine W_loop (σ := Nat × (Nat → Int32)) (fun (n_ : Nat) (x_ : Nat × (Nat → Int32)) (H : Heap) (locs : List Loc) (ls : Array Slot) => match x_ with | (kk_9, im_9) => n_ = 24 - kk_9 ∧ (kk_9 ≤ 24 ∧ imOK im_9) ∧ va_P D classes [((a 0), .inr (8, [.ref (a 1), .ref (a 2), .ref (a 3), .ref (a 4), .ref (a 5), .int (nI tx), .int fp, .int (nI t0), .long wd, .int (nI we), .int nu, .int na, .int (nI rd), .ref (a 14), .ref (a 15), .ref (a 16), .int ts, .ref (a 18), .ref (a 19), .ref (a 20), .ref (a 21), .ref (a 22), .ref (a 23), .int (nI ru), .ref (a 25), .ref (a 26), .ref (a 27), .ref (a 28), .ref (a 29), .ref (a 30), .int (nI rw), .ref (a 32), .ref (a 33), .ref (a 34), .int (nI ca), .ref (a 36), .ref (a 37), .int df, .int db, .ref (a 40), .ref (a 41), .int sd, .ref (a 43), .ref (a 44)])), ((a 32), .inl (k 2, 24, .inl frow)), ((a 36), .inl (k 1, 4, .inl fwalks)), ((a 37), .inl (k 1, 4, .inl (nF br))), ((a 43), .inl (k 2, 2, .inl fisKept)), ((a 44), .inl (k 1, 70, .inl im_9))] H ∧ va_D A [((a 0), .inr (8, [.ref (a 1), .ref (a 2), .ref (a 3), .ref (a 4), .ref (a 5), .int (nI tx), .int fp, .int (nI t0), .long wd, .int (nI we), .int nu, .int na, .int (nI rd), .ref (a 14), .ref (a 15), .ref (a 16), .int ts, .ref (a 18), .ref (a 19), .ref (a 20), .ref (a 21), .ref (a 22), .ref (a 23), .int (nI ru), .ref (a 25), .ref (a 26), .ref (a 27), .ref (a 28), .ref (a 29), .ref (a 30), .int (nI rw), .ref (a 32), .ref (a 33), .ref (a 34), .int (nI ca), .ref (a 36), .ref (a 37), .int df, .int db, .ref (a 40), .ref (a 41), .int sd, .ref (a 43), .ref (a 44)])), ((a 32), .inl (k 2, 24, .inl frow)), ((a 36), .inl (k 1, 4, .inl fwalks)), ((a 37), .inl (k 1, 4, .inl (nF br))), ((a 43), .inl (k 2, 2, .inl fisKept)), ((a 44), .inl (k 1, 70, .inl im_9))] ∧ va_S A s.heap H locs ∧ lv_has ls 4 [(3, .int (nI kk_9)), (2, .int (nI (35 * nb_2))), (0, .ref (a 0)), (1, .int (nI nb_2))]) (fun n_9 x_9 H locs ls hI ih_9 => ?_) _ (0, f_8) ⟨rfl, ⟨by omega, him_8⟩, hP, hD, hS, (lv_sub hl [0, 1, 2, 3] rfl)⟩
    obtain ⟨kk_9, im_9⟩ := x_9
    obtain ⟨hm_9, hv_9, hP, hD, hS, hl⟩ := hI
    subst hm_9
    have himl_9 := hv_9.2
    refine lv_iload_n hx hb dX8_keep_55 rfl (lv_at hl 0 rfl) ?_
    refine lv_bipush (v := 24) hx hb dX8_keep_56 (by decide) ?_
    refine lv_icmp_ge (tgt := 91) hx hb dX8_keep_58 (by decide) (fun c_10 => ?_) (fun c_10 => ?_)
    · have c_10 := (nI_leI (a := 24) (b := kk_9) (by omega) (by omega)).mp c_10
      refine lv_iconst (v := 0) hx hb dX8_keep_91 (by decide) ?_
      refine lv_istore_n (lv' := [(3, .int 0), (2, .int (nI (35 * nb_2))), (0, .ref (a 0)), (1, .int (nI nb_2))]) hx hb dX8_keep_92 rfl hl (by decide) rfl (fun ls hl => ?_)
      refine W_loop (σ := Nat × (Nat → Int32)) (fun (n_ : Nat) (x_ : Nat × (Nat → Int32)) (H : Heap) (locs : List Loc) (ls : Array Slot) => match x_ with | (kk_11, im_11) => n_ = 4 - kk_11 ∧ (kk_11 ≤ 4 ∧ imOK im_11) ∧ va_P D classes [((a 0), .inr (8, [.ref (a 1), .ref (a 2), .ref (a 3), .ref (a 4), .ref (a 5), .int (nI tx), .int fp, .int (nI t0), .long wd, .int (nI we), .int nu, .int na, .int (nI rd), .ref (a 14), .ref (a 15), .ref (a 16), .int ts, .ref (a 18), .ref (a 19), .ref (a 20), .ref (a 21), .ref (a 22), .ref (a 23), .int (nI ru), .ref (a 25), .ref (a 26), .ref (a 27), .ref (a 28), .ref (a 29), .ref (a 30), .int (nI rw), .ref (a 32), .ref (a 33), .ref (a 34), .int (nI ca), .ref (a 36), .ref (a 37), .int df, .int db, .ref (a 40), .ref (a 41), .int sd, .ref (a 43), .ref (a 44)])), ((a 32), .inl (k 2, 24, .inl frow)), ((a 36), .inl (k 1, 4, .inl fwalks)), ((a 37), .inl (k 1, 4, .inl (nF br))), ((a 43), .inl (k 2, 2, .inl fisKept)), ((a 44), .inl (k 1, 70, .inl im_11))] H ∧ va_D A [((a 0), .inr (8, [.ref (a 1), .ref (a 2), .ref (a 3), .ref (a 4), .ref (a 5), .int (nI tx), .int fp, .int (nI t0), .long wd, .int (nI we), .int nu, .int na, .int (nI rd), .ref (a 14), .ref (a 15), .ref (a 16), .int ts, .ref (a 18), .ref (a 19), .ref (a 20), .ref (a 21), .ref (a 22), .ref (a 23), .int (nI ru), .ref (a 25), .ref (a 26), .ref (a 27), .ref (a 28), .ref (a 29), .ref (a 30), .int (nI rw), .ref (a 32), .ref (a 33), .ref (a 34), .int (nI ca), .ref (a 36), .ref (a 37), .int df, .int db, .ref (a 40), .ref (a 41), .int sd, .ref (a 43), .ref (a 44)])), ((a 32), .inl (k 2, 24, .inl frow)), ((a 36), .inl (k 1, 4, .inl fwalks)), ((a 37), .inl (k 1, 4, .inl (nF br))), ((a 43), .inl (k 2, 2, .inl fisKept)), ((a 44), .inl (k 1, 70, .inl im_11))] ∧ va_S A s.heap H locs ∧ lv_has ls 4 [(3, .int (nI kk_11)), (2, .int (nI (35 * nb_2))), (0, .ref (a 0)), (1, .int (nI nb_2))]) (fun n_11 x_11 H locs ls hI ih_11 => ?_) _ (0, im_9) ⟨rfl, ⟨by omega, himl_9⟩, hP, hD, hS, (lv_sub hl [0, 1, 2, 3] rfl)⟩
      obtain ⟨kk_11, im_11⟩ := x_11
      obtain ⟨hm_11, hv_11, hP, hD, hS, hl⟩ := hI
      subst hm_11
      have himl_11 := hv_11.2
      refine lv_iload_n hx hb dX8_keep_93 rfl (lv_at hl 0 rfl) ?_
      refine lv_iconst (v := 4) hx hb dX8_keep_94 (by decide) ?_
      refine lv_icmp_ge (tgt := 138) hx hb dX8_keep_95 (by decide) (fun c_12 => ?_) (fun c_12 => ?_)
      · have c_12 := (nI_leI (a := 4) (b := kk_11) (by omega) (by omega)).mp c_12
        refine lv_aload_n hx hb dX8_keep_138 rfl (lv_at hl 2 rfl) ?_
        refine va_get (D := D) (ci := 8) (v := .ref (a 43)) (C := RX8) (T := TX8) (N := 44) hx hb hts inX8 hown hK hP 0 rfl rfl 42 (by decide) (hts _ tw_1015) (fun _ h9 => h9) rfl dX8_keep_139 ?_
        refine lv_iload_n hx hb dX8_keep_142 rfl (lv_at hl 3 rfl) ?_
        refine lv_iconst (v := 1) hx hb dX8_keep_143 (by decide) ?_
        refine va_zast hx hb hK hP hD hS 4 2 rfl rfl (vp_in_nI (by omega) (by decide)) dX8_keep_144 (fun H locs hP hD hS => ?_)
        replace hP : va_P D classes [((a 0), .inr (8, [.ref (a 1), .ref (a 2), .ref (a 3), .ref (a 4), .ref (a 5), .int (nI tx), .int fp, .int (nI t0), .long wd, .int (nI we), .int nu, .int na, .int (nI rd), .ref (a 14), .ref (a 15), .ref (a 16), .int ts, .ref (a 18), .ref (a 19), .ref (a 20), .ref (a 21), .ref (a 22), .ref (a 23), .int (nI ru), .ref (a 25), .ref (a 26), .ref (a 27), .ref (a 28), .ref (a 29), .ref (a 30), .int (nI rw), .ref (a 32), .ref (a 33), .ref (a 34), .int (nI ca), .ref (a 36), .ref (a 37), .int df, .int db, .ref (a 40), .ref (a 41), .int sd, .ref (a 43), .ref (a 44)])), ((a 32), .inl (k 2, 24, .inl frow)), ((a 36), .inl (k 1, 4, .inl fwalks)), ((a 37), .inl (k 1, 4, .inl (nF br))), ((a 43), .inl (k 2, 2, .inl (upd fisKept (Int32.toNatClampNeg (nI nb_2)) (vp_nar .boolean 1)))), ((a 44), .inl (k 1, 70, .inl im_11))] H := hP
        replace hD : va_D A [((a 0), .inr (8, [.ref (a 1), .ref (a 2), .ref (a 3), .ref (a 4), .ref (a 5), .int (nI tx), .int fp, .int (nI t0), .long wd, .int (nI we), .int nu, .int na, .int (nI rd), .ref (a 14), .ref (a 15), .ref (a 16), .int ts, .ref (a 18), .ref (a 19), .ref (a 20), .ref (a 21), .ref (a 22), .ref (a 23), .int (nI ru), .ref (a 25), .ref (a 26), .ref (a 27), .ref (a 28), .ref (a 29), .ref (a 30), .int (nI rw), .ref (a 32), .ref (a 33), .ref (a 34), .int (nI ca), .ref (a 36), .ref (a 37), .int df, .int db, .ref (a 40), .ref (a 41), .int sd, .ref (a 43), .ref (a 44)])), ((a 32), .inl (k 2, 24, .inl frow)), ((a 36), .inl (k 1, 4, .inl fwalks)), ((a 37), .inl (k 1, 4, .inl (nF br))), ((a 43), .inl (k 2, 2, .inl (upd fisKept (Int32.toNatClampNeg (nI nb_2)) (vp_nar .boolean 1)))), ((a 44), .inl (k 1, 70, .inl im_11))] := hD
        generalize (upd fisKept (Int32.toNatClampNeg (nI nb_2)) (vp_nar .boolean 1)) = f_13 at hP hD
        refine lv_iconst (v := 1) hx hb dX8_keep_145 (by decide) ?_
        have hP9 := hP.sub (ws' := [((a 0), .inr (8, [.ref (a 1), .ref (a 2), .ref (a 3), .ref (a 4), .ref (a 5), .int (nI tx), .int fp, .int (nI t0), .long wd, .int (nI we), .int nu, .int na, .int (nI rd), .ref (a 14), .ref (a 15), .ref (a 16), .int ts, .ref (a 18), .ref (a 19), .ref (a 20), .ref (a 21), .ref (a 22), .ref (a 23), .int (nI ru), .ref (a 25), .ref (a 26), .ref (a 27), .ref (a 28), .ref (a 29), .ref (a 30), .int (nI rw), .ref (a 32), .ref (a 33), .ref (a 34), .int (nI ca), .ref (a 36), .ref (a 37), .int df, .int db, .ref (a 40), .ref (a 41), .int sd, .ref (a 43), .ref (a 44)])), ((a 32), .inl (k 2, 24, .inl frow)), ((a 36), .inl (k 1, 4, .inl fwalks)), ((a 37), .inl (k 1, 4, .inl (nF br))), ((a 43), .inl (k 2, 2, .inl f_13)), ((a 44), .inl (k 1, 70, .inl im_11))]) [0, 1, 2, 3, 4, 5] rfl
        have hD9 := hD.sub (ws' := [((a 0), .inr (8, [.ref (a 1), .ref (a 2), .ref (a 3), .ref (a 4), .ref (a 5), .int (nI tx), .int fp, .int (nI t0), .long wd, .int (nI we), .int nu, .int na, .int (nI rd), .ref (a 14), .ref (a 15), .ref (a 16), .int ts, .ref (a 18), .ref (a 19), .ref (a 20), .ref (a 21), .ref (a 22), .ref (a 23), .int (nI ru), .ref (a 25), .ref (a 26), .ref (a 27), .ref (a 28), .ref (a 29), .ref (a 30), .int (nI rw), .ref (a 32), .ref (a 33), .ref (a 34), .int (nI ca), .ref (a 36), .ref (a 37), .int df, .int db, .ref (a 40), .ref (a 41), .int sd, .ref (a 43), .ref (a 44)])), ((a 32), .inl (k 2, 24, .inl frow)), ((a 36), .inl (k 1, 4, .inl fwalks)), ((a 37), .inl (k 1, 4, .inl (nF br))), ((a 43), .inl (k 2, 2, .inl f_13)), ((a 44), .inl (k 1, 70, .inl im_11))]) [0, 1, 2, 3, 4, 5] (by decide) rfl
        exact W.iret (v := 1) hx hb hr (fun t ht hW => ⟨⟨1, (f_13, im_11), rfl, ⟨himl_11, fun _ => rfl, fun h => absurd hw_1 h⟩, by rw [ht]; exact hP9, hD9⟩, hS.F ht⟩) hS.2.2 dX8_keep_146
      · have c_12 : ¬ (4 ≤ kk_11) := fun h => c_12 ((nI_leI (a := 4) (b := kk_11) (by omega) (by omega)).mpr h)
        refine lv_aload_n hx hb dX8_keep_98 rfl (lv_at hl 2 rfl) ?_
        refine va_get (D := D) (ci := 8) (v := .ref (a 44)) (C := RX8) (T := TX8) (N := 44) hx hb hts inX8 hown hK hP 0 rfl rfl 43 (by decide) (hts _ tw_1016) (fun _ h9 => h9) rfl dX8_keep_99 ?_
        refine lv_iload_n hx hb dX8_keep_102 rfl (lv_at hl 1 rfl) ?_
        refine lv_bipush (v := 27) hx hb dX8_keep_103 (by decide) ?_
        refine lv_iadd hx hb dX8_keep_105 ?_
        refine lv_ti (y := (nI (35 * nb_2 + 27))) (nI_add (35 * nb_2) 27) ?_
        refine lv_iload_n hx hb dX8_keep_106 rfl (lv_at hl 0 rfl) ?_
        refine lv_iadd hx hb dX8_keep_107 ?_
        refine lv_ti (y := (nI (35 * nb_2 + 27 + kk_11))) (nI_add (35 * nb_2 + 27) kk_11) ?_
        refine lv_aload_n hx hb dX8_keep_108 rfl (lv_at hl 2 rfl) ?_
        refine va_get (D := D) (ci := 8) (v := .ref (a 36)) (C := RX8) (T := TX8) (N := 44) hx hb hts inX8 hown hK hP 0 rfl rfl 35 (by decide) (hts _ tw_1008) (fun _ h9 => h9) rfl dX8_keep_109 ?_
        refine lv_iload_n hx hb dX8_keep_112 rfl (lv_at hl 0 rfl) ?_
        refine va_iald hx hb hK hP 2 1 rfl rfl (vp_in_nI (by omega) (by decide)) dX8_keep_113 ?_
        refine lv_ti (y := (fwalks kk_11)) (by rw [nI_clamp (by omega)]) ?_
        refine va_iast hx hb hK hP hD hS 5 1 rfl rfl (vp_in_nI (by omega) (by decide)) dX8_keep_114 (fun H locs hP hD hS => ?_)
        replace hP : va_P D classes [((a 0), .inr (8, [.ref (a 1), .ref (a 2), .ref (a 3), .ref (a 4), .ref (a 5), .int (nI tx), .int fp, .int (nI t0), .long wd, .int (nI we), .int nu, .int na, .int (nI rd), .ref (a 14), .ref (a 15), .ref (a 16), .int ts, .ref (a 18), .ref (a 19), .ref (a 20), .ref (a 21), .ref (a 22), .ref (a 23), .int (nI ru), .ref (a 25), .ref (a 26), .ref (a 27), .ref (a 28), .ref (a 29), .ref (a 30), .int (nI rw), .ref (a 32), .ref (a 33), .ref (a 34), .int (nI ca), .ref (a 36), .ref (a 37), .int df, .int db, .ref (a 40), .ref (a 41), .int sd, .ref (a 43), .ref (a 44)])), ((a 32), .inl (k 2, 24, .inl frow)), ((a 36), .inl (k 1, 4, .inl fwalks)), ((a 37), .inl (k 1, 4, .inl (nF br))), ((a 43), .inl (k 2, 2, .inl fisKept)), ((a 44), .inl (k 1, 70, .inl (upd im_11 (Int32.toNatClampNeg (nI (35 * nb_2 + 27 + kk_11))) (fwalks kk_11))))] H := hP
        replace hD : va_D A [((a 0), .inr (8, [.ref (a 1), .ref (a 2), .ref (a 3), .ref (a 4), .ref (a 5), .int (nI tx), .int fp, .int (nI t0), .long wd, .int (nI we), .int nu, .int na, .int (nI rd), .ref (a 14), .ref (a 15), .ref (a 16), .int ts, .ref (a 18), .ref (a 19), .ref (a 20), .ref (a 21), .ref (a 22), .ref (a 23), .int (nI ru), .ref (a 25), .ref (a 26), .ref (a 27), .ref (a 28), .ref (a 29), .ref (a 30), .int (nI rw), .ref (a 32), .ref (a 33), .ref (a 34), .int (nI ca), .ref (a 36), .ref (a 37), .int df, .int db, .ref (a 40), .ref (a 41), .int sd, .ref (a 43), .ref (a 44)])), ((a 32), .inl (k 2, 24, .inl frow)), ((a 36), .inl (k 1, 4, .inl fwalks)), ((a 37), .inl (k 1, 4, .inl (nF br))), ((a 43), .inl (k 2, 2, .inl fisKept)), ((a 44), .inl (k 1, 70, .inl (upd im_11 (Int32.toNatClampNeg (nI (35 * nb_2 + 27 + kk_11))) (fwalks kk_11))))] := hD
        rw [nI_clamp (n := (35 * nb_2 + 27 + kk_11)) (by omega)] at hP hD
        replace hP : va_P D classes [((a 0), .inr (8, [.ref (a 1), .ref (a 2), .ref (a 3), .ref (a 4), .ref (a 5), .int (nI tx), .int fp, .int (nI t0), .long wd, .int (nI we), .int nu, .int na, .int (nI rd), .ref (a 14), .ref (a 15), .ref (a 16), .int ts, .ref (a 18), .ref (a 19), .ref (a 20), .ref (a 21), .ref (a 22), .ref (a 23), .int (nI ru), .ref (a 25), .ref (a 26), .ref (a 27), .ref (a 28), .ref (a 29), .ref (a 30), .int (nI rw), .ref (a 32), .ref (a 33), .ref (a 34), .int (nI ca), .ref (a 36), .ref (a 37), .int df, .int db, .ref (a 40), .ref (a 41), .int sd, .ref (a 43), .ref (a 44)])), ((a 32), .inl (k 2, 24, .inl frow)), ((a 36), .inl (k 1, 4, .inl fwalks)), ((a 37), .inl (k 1, 4, .inl (nF br))), ((a 43), .inl (k 2, 2, .inl fisKept)), ((a 44), .inl (k 1, 70, .inl (upd im_11 (35 * nb_2 + 27 + kk_11) (fwalks kk_11))))] H := hP
        replace hD : va_D A [((a 0), .inr (8, [.ref (a 1), .ref (a 2), .ref (a 3), .ref (a 4), .ref (a 5), .int (nI tx), .int fp, .int (nI t0), .long wd, .int (nI we), .int nu, .int na, .int (nI rd), .ref (a 14), .ref (a 15), .ref (a 16), .int ts, .ref (a 18), .ref (a 19), .ref (a 20), .ref (a 21), .ref (a 22), .ref (a 23), .int (nI ru), .ref (a 25), .ref (a 26), .ref (a 27), .ref (a 28), .ref (a 29), .ref (a 30), .int (nI rw), .ref (a 32), .ref (a 33), .ref (a 34), .int (nI ca), .ref (a 36), .ref (a 37), .int df, .int db, .ref (a 40), .ref (a 41), .int sd, .ref (a 43), .ref (a 44)])), ((a 32), .inl (k 2, 24, .inl frow)), ((a 36), .inl (k 1, 4, .inl fwalks)), ((a 37), .inl (k 1, 4, .inl (nF br))), ((a 43), .inl (k 2, 2, .inl fisKept)), ((a 44), .inl (k 1, 70, .inl (upd im_11 (35 * nb_2 + 27 + kk_11) (fwalks kk_11))))] := hD
        have him_15 : imOK (upd im_11 (35 * nb_2 + 27 + kk_11) (fwalks kk_11)) := imOK_upd himl_11 (35 * nb_2 + 27 + kk_11) (fwalks kk_11) ⟨fun h => absurd h (by omega), fun h => absurd h (by omega), fun h => absurd h (by omega)⟩
        generalize (upd im_11 (35 * nb_2 + 27 + kk_11) (fwalks kk_11)) = f_15 at hP hD him_15
        refine lv_aload_n hx hb dX8_keep_115 rfl (lv_at hl 2 rfl) ?_
        refine va_get (D := D) (ci := 8) (v := .ref (a 44)) (C := RX8) (T := TX8) (N := 44) hx hb hts inX8 hown hK hP 0 rfl rfl 43 (by decide) (hts _ tw_1016) (fun _ h9 => h9) rfl dX8_keep_116 ?_
        refine lv_iload_n hx hb dX8_keep_119 rfl (lv_at hl 1 rfl) ?_
        refine lv_bipush (v := 31) hx hb dX8_keep_120 (by decide) ?_
        refine lv_iadd hx hb dX8_keep_122 ?_
        refine lv_ti (y := (nI (35 * nb_2 + 31))) (nI_add (35 * nb_2) 31) ?_
        refine lv_iload_n hx hb dX8_keep_123 rfl (lv_at hl 0 rfl) ?_
        refine lv_iadd hx hb dX8_keep_124 ?_
        refine lv_ti (y := (nI (35 * nb_2 + 31 + kk_11))) (nI_add (35 * nb_2 + 31) kk_11) ?_
        refine lv_aload_n hx hb dX8_keep_125 rfl (lv_at hl 2 rfl) ?_
        refine va_get (D := D) (ci := 8) (v := .ref (a 37)) (C := RX8) (T := TX8) (N := 44) hx hb hts inX8 hown hK hP 0 rfl rfl 36 (by decide) (hts _ tw_1009) (fun _ h9 => h9) rfl dX8_keep_126 ?_
        refine lv_iload_n hx hb dX8_keep_129 rfl (lv_at hl 0 rfl) ?_
        refine va_iald hx hb hK hP 3 1 rfl rfl (vp_in_nI (by omega) (by decide)) dX8_keep_130 ?_
        have hq_16 := hbr kk_11
        refine lv_ti (y := (nI (br kk_11))) (by rw [nI_clamp (by omega)]; rfl) ?_
        refine va_iast hx hb hK hP hD hS 5 1 rfl rfl (vp_in_nI (by omega) (by decide)) dX8_keep_131 (fun H locs hP hD hS => ?_)
        replace hP : va_P D classes [((a 0), .inr (8, [.ref (a 1), .ref (a 2), .ref (a 3), .ref (a 4), .ref (a 5), .int (nI tx), .int fp, .int (nI t0), .long wd, .int (nI we), .int nu, .int na, .int (nI rd), .ref (a 14), .ref (a 15), .ref (a 16), .int ts, .ref (a 18), .ref (a 19), .ref (a 20), .ref (a 21), .ref (a 22), .ref (a 23), .int (nI ru), .ref (a 25), .ref (a 26), .ref (a 27), .ref (a 28), .ref (a 29), .ref (a 30), .int (nI rw), .ref (a 32), .ref (a 33), .ref (a 34), .int (nI ca), .ref (a 36), .ref (a 37), .int df, .int db, .ref (a 40), .ref (a 41), .int sd, .ref (a 43), .ref (a 44)])), ((a 32), .inl (k 2, 24, .inl frow)), ((a 36), .inl (k 1, 4, .inl fwalks)), ((a 37), .inl (k 1, 4, .inl (nF br))), ((a 43), .inl (k 2, 2, .inl fisKept)), ((a 44), .inl (k 1, 70, .inl (upd f_15 (Int32.toNatClampNeg (nI (35 * nb_2 + 31 + kk_11))) (nI (br kk_11)))))] H := hP
        replace hD : va_D A [((a 0), .inr (8, [.ref (a 1), .ref (a 2), .ref (a 3), .ref (a 4), .ref (a 5), .int (nI tx), .int fp, .int (nI t0), .long wd, .int (nI we), .int nu, .int na, .int (nI rd), .ref (a 14), .ref (a 15), .ref (a 16), .int ts, .ref (a 18), .ref (a 19), .ref (a 20), .ref (a 21), .ref (a 22), .ref (a 23), .int (nI ru), .ref (a 25), .ref (a 26), .ref (a 27), .ref (a 28), .ref (a 29), .ref (a 30), .int (nI rw), .ref (a 32), .ref (a 33), .ref (a 34), .int (nI ca), .ref (a 36), .ref (a 37), .int df, .int db, .ref (a 40), .ref (a 41), .int sd, .ref (a 43), .ref (a 44)])), ((a 32), .inl (k 2, 24, .inl frow)), ((a 36), .inl (k 1, 4, .inl fwalks)), ((a 37), .inl (k 1, 4, .inl (nF br))), ((a 43), .inl (k 2, 2, .inl fisKept)), ((a 44), .inl (k 1, 70, .inl (upd f_15 (Int32.toNatClampNeg (nI (35 * nb_2 + 31 + kk_11))) (nI (br kk_11)))))] := hD
        rw [nI_clamp (n := (35 * nb_2 + 31 + kk_11)) (by omega)] at hP hD
        replace hP : va_P D classes [((a 0), .inr (8, [.ref (a 1), .ref (a 2), .ref (a 3), .ref (a 4), .ref (a 5), .int (nI tx), .int fp, .int (nI t0), .long wd, .int (nI we), .int nu, .int na, .int (nI rd), .ref (a 14), .ref (a 15), .ref (a 16), .int ts, .ref (a 18), .ref (a 19), .ref (a 20), .ref (a 21), .ref (a 22), .ref (a 23), .int (nI ru), .ref (a 25), .ref (a 26), .ref (a 27), .ref (a 28), .ref (a 29), .ref (a 30), .int (nI rw), .ref (a 32), .ref (a 33), .ref (a 34), .int (nI ca), .ref (a 36), .ref (a 37), .int df, .int db, .ref (a 40), .ref (a 41), .int sd, .ref (a 43), .ref (a 44)])), ((a 32), .inl (k 2, 24, .inl frow)), ((a 36), .inl (k 1, 4, .inl fwalks)), ((a 37), .inl (k 1, 4, .inl (nF br))), ((a 43), .inl (k 2, 2, .inl fisKept)), ((a 44), .inl (k 1, 70, .inl (upd f_15 (35 * nb_2 + 31 + kk_11) (nI (br kk_11)))))] H := hP
        replace hD : va_D A [((a 0), .inr (8, [.ref (a 1), .ref (a 2), .ref (a 3), .ref (a 4), .ref (a 5), .int (nI tx), .int fp, .int (nI t0), .long wd, .int (nI we), .int nu, .int na, .int (nI rd), .ref (a 14), .ref (a 15), .ref (a 16), .int ts, .ref (a 18), .ref (a 19), .ref (a 20), .ref (a 21), .ref (a 22), .ref (a 23), .int (nI ru), .ref (a 25), .ref (a 26), .ref (a 27), .ref (a 28), .ref (a 29), .ref (a 30), .int (nI rw), .ref (a 32), .ref (a 33), .ref (a 34), .int (nI ca), .ref (a 36), .ref (a 37), .int df, .int db, .ref (a 40), .ref (a 41), .int sd, .ref (a 43), .ref (a 44)])), ((a 32), .inl (k 2, 24, .inl frow)), ((a 36), .inl (k 1, 4, .inl fwalks)), ((a 37), .inl (k 1, 4, .inl (nF br))), ((a 43), .inl (k 2, 2, .inl fisKept)), ((a 44), .inl (k 1, 70, .inl (upd f_15 (35 * nb_2 + 31 + kk_11) (nI (br kk_11)))))] := hD
        have him_18 : imOK (upd f_15 (35 * nb_2 + 31 + kk_11) (nI (br kk_11))) := imOK_upd him_15 (35 * nb_2 + 31 + kk_11) (nI (br kk_11)) ⟨fun h => absurd h (by omega), fun h => absurd h (by omega), fun _ => ⟨br kk_11, by omega, rfl⟩⟩
        generalize (upd f_15 (35 * nb_2 + 31 + kk_11) (nI (br kk_11))) = f_18 at hP hD him_18
        refine lv_iinc (v := (nI (kk_11 + 1))) (lv' := [(3, .int (nI (kk_11 + 1))), (2, .int (nI (35 * nb_2))), (0, .ref (a 0)), (1, .int (nI nb_2))]) hx hb dX8_keep_132 hl (k := 0) rfl (nI_add kk_11 1) (by decide) rfl (fun ls hl => ?_)
        refine lv_goto (tgt := 93) hx hb dX8_keep_135 (by decide) ?_
        exact ih_11 _ (kk_11 + 1, f_18) _ _ _ (by omega) ⟨rfl, ⟨by omega, him_18⟩, hP, hD, hS, (lv_sub hl [0, 1, 2, 3] rfl)⟩
    · have c_10 : ¬ (24 ≤ kk_9) := fun h => c_10 ((nI_leI (a := 24) (b := kk_9) (by omega) (by omega)).mpr h)
      refine lv_aload_n hx hb dX8_keep_61 rfl (lv_at hl 2 rfl) ?_
      refine va_get (D := D) (ci := 8) (v := .ref (a 44)) (C := RX8) (T := TX8) (N := 44) hx hb hts inX8 hown hK hP 0 rfl rfl 43 (by decide) (hts _ tw_1016) (fun _ h9 => h9) rfl dX8_keep_62 ?_
      refine lv_iload_n hx hb dX8_keep_65 rfl (lv_at hl 1 rfl) ?_
      refine lv_iconst (v := 3) hx hb dX8_keep_66 (by decide) ?_
      refine lv_iadd hx hb dX8_keep_67 ?_
      refine lv_ti (y := (nI (35 * nb_2 + 3))) (nI_add (35 * nb_2) 3) ?_
      refine lv_iload_n hx hb dX8_keep_68 rfl (lv_at hl 0 rfl) ?_
      refine lv_iadd hx hb dX8_keep_69 ?_
      refine lv_ti (y := (nI (35 * nb_2 + 3 + kk_9))) (nI_add (35 * nb_2 + 3) kk_9) ?_
      refine lv_aload_n hx hb dX8_keep_70 rfl (lv_at hl 2 rfl) ?_
      refine va_get (D := D) (ci := 8) (v := .ref (a 32)) (C := RX8) (T := TX8) (N := 44) hx hb hts inX8 hown hK hP 0 rfl rfl 31 (by decide) (hts _ tw_1004) (fun _ h9 => h9) rfl dX8_keep_71 ?_
      refine lv_iload_n hx hb dX8_keep_74 rfl (lv_at hl 0 rfl) ?_
      refine va_zald hx hb hK hP 1 2 rfl rfl (vp_in_nI (by omega) (by decide)) dX8_keep_75 ?_
      refine lv_ti (y := (frow kk_9)) (by rw [nI_clamp (by omega)]) ?_
      refine lv_if_eq (tgt := 83) hx hb dX8_keep_76 (by decide) (fun c_19 => ?_) (fun c_19 => ?_)
      · refine lv_iconst (v := 0) hx hb dX8_keep_83 (by decide) ?_
        refine va_iast hx hb hK hP hD hS 5 1 rfl rfl (vp_in_nI (by omega) (by decide)) dX8_keep_84 (fun H locs hP hD hS => ?_)
        replace hP : va_P D classes [((a 0), .inr (8, [.ref (a 1), .ref (a 2), .ref (a 3), .ref (a 4), .ref (a 5), .int (nI tx), .int fp, .int (nI t0), .long wd, .int (nI we), .int nu, .int na, .int (nI rd), .ref (a 14), .ref (a 15), .ref (a 16), .int ts, .ref (a 18), .ref (a 19), .ref (a 20), .ref (a 21), .ref (a 22), .ref (a 23), .int (nI ru), .ref (a 25), .ref (a 26), .ref (a 27), .ref (a 28), .ref (a 29), .ref (a 30), .int (nI rw), .ref (a 32), .ref (a 33), .ref (a 34), .int (nI ca), .ref (a 36), .ref (a 37), .int df, .int db, .ref (a 40), .ref (a 41), .int sd, .ref (a 43), .ref (a 44)])), ((a 32), .inl (k 2, 24, .inl frow)), ((a 36), .inl (k 1, 4, .inl fwalks)), ((a 37), .inl (k 1, 4, .inl (nF br))), ((a 43), .inl (k 2, 2, .inl fisKept)), ((a 44), .inl (k 1, 70, .inl (upd im_9 (Int32.toNatClampNeg (nI (35 * nb_2 + 3 + kk_9))) 0)))] H := hP
        replace hD : va_D A [((a 0), .inr (8, [.ref (a 1), .ref (a 2), .ref (a 3), .ref (a 4), .ref (a 5), .int (nI tx), .int fp, .int (nI t0), .long wd, .int (nI we), .int nu, .int na, .int (nI rd), .ref (a 14), .ref (a 15), .ref (a 16), .int ts, .ref (a 18), .ref (a 19), .ref (a 20), .ref (a 21), .ref (a 22), .ref (a 23), .int (nI ru), .ref (a 25), .ref (a 26), .ref (a 27), .ref (a 28), .ref (a 29), .ref (a 30), .int (nI rw), .ref (a 32), .ref (a 33), .ref (a 34), .int (nI ca), .ref (a 36), .ref (a 37), .int df, .int db, .ref (a 40), .ref (a 41), .int sd, .ref (a 43), .ref (a 44)])), ((a 32), .inl (k 2, 24, .inl frow)), ((a 36), .inl (k 1, 4, .inl fwalks)), ((a 37), .inl (k 1, 4, .inl (nF br))), ((a 43), .inl (k 2, 2, .inl fisKept)), ((a 44), .inl (k 1, 70, .inl (upd im_9 (Int32.toNatClampNeg (nI (35 * nb_2 + 3 + kk_9))) 0)))] := hD
        rw [nI_clamp (n := (35 * nb_2 + 3 + kk_9)) (by omega)] at hP hD
        replace hP : va_P D classes [((a 0), .inr (8, [.ref (a 1), .ref (a 2), .ref (a 3), .ref (a 4), .ref (a 5), .int (nI tx), .int fp, .int (nI t0), .long wd, .int (nI we), .int nu, .int na, .int (nI rd), .ref (a 14), .ref (a 15), .ref (a 16), .int ts, .ref (a 18), .ref (a 19), .ref (a 20), .ref (a 21), .ref (a 22), .ref (a 23), .int (nI ru), .ref (a 25), .ref (a 26), .ref (a 27), .ref (a 28), .ref (a 29), .ref (a 30), .int (nI rw), .ref (a 32), .ref (a 33), .ref (a 34), .int (nI ca), .ref (a 36), .ref (a 37), .int df, .int db, .ref (a 40), .ref (a 41), .int sd, .ref (a 43), .ref (a 44)])), ((a 32), .inl (k 2, 24, .inl frow)), ((a 36), .inl (k 1, 4, .inl fwalks)), ((a 37), .inl (k 1, 4, .inl (nF br))), ((a 43), .inl (k 2, 2, .inl fisKept)), ((a 44), .inl (k 1, 70, .inl (upd im_9 (35 * nb_2 + 3 + kk_9) 0)))] H := hP
        replace hD : va_D A [((a 0), .inr (8, [.ref (a 1), .ref (a 2), .ref (a 3), .ref (a 4), .ref (a 5), .int (nI tx), .int fp, .int (nI t0), .long wd, .int (nI we), .int nu, .int na, .int (nI rd), .ref (a 14), .ref (a 15), .ref (a 16), .int ts, .ref (a 18), .ref (a 19), .ref (a 20), .ref (a 21), .ref (a 22), .ref (a 23), .int (nI ru), .ref (a 25), .ref (a 26), .ref (a 27), .ref (a 28), .ref (a 29), .ref (a 30), .int (nI rw), .ref (a 32), .ref (a 33), .ref (a 34), .int (nI ca), .ref (a 36), .ref (a 37), .int df, .int db, .ref (a 40), .ref (a 41), .int sd, .ref (a 43), .ref (a 44)])), ((a 32), .inl (k 2, 24, .inl frow)), ((a 36), .inl (k 1, 4, .inl fwalks)), ((a 37), .inl (k 1, 4, .inl (nF br))), ((a 43), .inl (k 2, 2, .inl fisKept)), ((a 44), .inl (k 1, 70, .inl (upd im_9 (35 * nb_2 + 3 + kk_9) 0)))] := hD
        have him_21 : imOK (upd im_9 (35 * nb_2 + 3 + kk_9) 0) := imOK_upd himl_9 (35 * nb_2 + 3 + kk_9) 0 ⟨fun h => absurd h (by omega), fun h => absurd h (by omega), fun h => absurd h (by omega)⟩
        generalize (upd im_9 (35 * nb_2 + 3 + kk_9) 0) = f_21 at hP hD him_21
        refine lv_iinc (v := (nI (kk_9 + 1))) (lv' := [(3, .int (nI (kk_9 + 1))), (2, .int (nI (35 * nb_2))), (0, .ref (a 0)), (1, .int (nI nb_2))]) hx hb dX8_keep_85 hl (k := 0) rfl (nI_add kk_9 1) (by decide) rfl (fun ls hl => ?_)
        refine lv_goto (tgt := 55) hx hb dX8_keep_88 (by decide) ?_
        exact ih_9 _ (kk_9 + 1, f_21) _ _ _ (by omega) ⟨rfl, ⟨by omega, him_21⟩, hP, hD, hS, (lv_sub hl [0, 1, 2, 3] rfl)⟩
      · refine lv_iconst (v := 1) hx hb dX8_keep_79 (by decide) ?_
        refine lv_goto (tgt := 84) hx hb dX8_keep_80 (by decide) ?_
        refine va_iast hx hb hK hP hD hS 5 1 rfl rfl (vp_in_nI (by omega) (by decide)) dX8_keep_84 (fun H locs hP hD hS => ?_)
        replace hP : va_P D classes [((a 0), .inr (8, [.ref (a 1), .ref (a 2), .ref (a 3), .ref (a 4), .ref (a 5), .int (nI tx), .int fp, .int (nI t0), .long wd, .int (nI we), .int nu, .int na, .int (nI rd), .ref (a 14), .ref (a 15), .ref (a 16), .int ts, .ref (a 18), .ref (a 19), .ref (a 20), .ref (a 21), .ref (a 22), .ref (a 23), .int (nI ru), .ref (a 25), .ref (a 26), .ref (a 27), .ref (a 28), .ref (a 29), .ref (a 30), .int (nI rw), .ref (a 32), .ref (a 33), .ref (a 34), .int (nI ca), .ref (a 36), .ref (a 37), .int df, .int db, .ref (a 40), .ref (a 41), .int sd, .ref (a 43), .ref (a 44)])), ((a 32), .inl (k 2, 24, .inl frow)), ((a 36), .inl (k 1, 4, .inl fwalks)), ((a 37), .inl (k 1, 4, .inl (nF br))), ((a 43), .inl (k 2, 2, .inl fisKept)), ((a 44), .inl (k 1, 70, .inl (upd im_9 (Int32.toNatClampNeg (nI (35 * nb_2 + 3 + kk_9))) 1)))] H := hP
        replace hD : va_D A [((a 0), .inr (8, [.ref (a 1), .ref (a 2), .ref (a 3), .ref (a 4), .ref (a 5), .int (nI tx), .int fp, .int (nI t0), .long wd, .int (nI we), .int nu, .int na, .int (nI rd), .ref (a 14), .ref (a 15), .ref (a 16), .int ts, .ref (a 18), .ref (a 19), .ref (a 20), .ref (a 21), .ref (a 22), .ref (a 23), .int (nI ru), .ref (a 25), .ref (a 26), .ref (a 27), .ref (a 28), .ref (a 29), .ref (a 30), .int (nI rw), .ref (a 32), .ref (a 33), .ref (a 34), .int (nI ca), .ref (a 36), .ref (a 37), .int df, .int db, .ref (a 40), .ref (a 41), .int sd, .ref (a 43), .ref (a 44)])), ((a 32), .inl (k 2, 24, .inl frow)), ((a 36), .inl (k 1, 4, .inl fwalks)), ((a 37), .inl (k 1, 4, .inl (nF br))), ((a 43), .inl (k 2, 2, .inl fisKept)), ((a 44), .inl (k 1, 70, .inl (upd im_9 (Int32.toNatClampNeg (nI (35 * nb_2 + 3 + kk_9))) 1)))] := hD
        rw [nI_clamp (n := (35 * nb_2 + 3 + kk_9)) (by omega)] at hP hD
        replace hP : va_P D classes [((a 0), .inr (8, [.ref (a 1), .ref (a 2), .ref (a 3), .ref (a 4), .ref (a 5), .int (nI tx), .int fp, .int (nI t0), .long wd, .int (nI we), .int nu, .int na, .int (nI rd), .ref (a 14), .ref (a 15), .ref (a 16), .int ts, .ref (a 18), .ref (a 19), .ref (a 20), .ref (a 21), .ref (a 22), .ref (a 23), .int (nI ru), .ref (a 25), .ref (a 26), .ref (a 27), .ref (a 28), .ref (a 29), .ref (a 30), .int (nI rw), .ref (a 32), .ref (a 33), .ref (a 34), .int (nI ca), .ref (a 36), .ref (a 37), .int df, .int db, .ref (a 40), .ref (a 41), .int sd, .ref (a 43), .ref (a 44)])), ((a 32), .inl (k 2, 24, .inl frow)), ((a 36), .inl (k 1, 4, .inl fwalks)), ((a 37), .inl (k 1, 4, .inl (nF br))), ((a 43), .inl (k 2, 2, .inl fisKept)), ((a 44), .inl (k 1, 70, .inl (upd im_9 (35 * nb_2 + 3 + kk_9) 1)))] H := hP
        replace hD : va_D A [((a 0), .inr (8, [.ref (a 1), .ref (a 2), .ref (a 3), .ref (a 4), .ref (a 5), .int (nI tx), .int fp, .int (nI t0), .long wd, .int (nI we), .int nu, .int na, .int (nI rd), .ref (a 14), .ref (a 15), .ref (a 16), .int ts, .ref (a 18), .ref (a 19), .ref (a 20), .ref (a 21), .ref (a 22), .ref (a 23), .int (nI ru), .ref (a 25), .ref (a 26), .ref (a 27), .ref (a 28), .ref (a 29), .ref (a 30), .int (nI rw), .ref (a 32), .ref (a 33), .ref (a 34), .int (nI ca), .ref (a 36), .ref (a 37), .int df, .int db, .ref (a 40), .ref (a 41), .int sd, .ref (a 43), .ref (a 44)])), ((a 32), .inl (k 2, 24, .inl frow)), ((a 36), .inl (k 1, 4, .inl fwalks)), ((a 37), .inl (k 1, 4, .inl (nF br))), ((a 43), .inl (k 2, 2, .inl fisKept)), ((a 44), .inl (k 1, 70, .inl (upd im_9 (35 * nb_2 + 3 + kk_9) 1)))] := hD
        have him_23 : imOK (upd im_9 (35 * nb_2 + 3 + kk_9) 1) := imOK_upd himl_9 (35 * nb_2 + 3 + kk_9) 1 ⟨fun h => absurd h (by omega), fun h => absurd h (by omega), fun h => absurd h (by omega)⟩
        generalize (upd im_9 (35 * nb_2 + 3 + kk_9) 1) = f_23 at hP hD him_23
        refine lv_iinc (v := (nI (kk_9 + 1))) (lv' := [(3, .int (nI (kk_9 + 1))), (2, .int (nI (35 * nb_2))), (0, .ref (a 0)), (1, .int (nI nb_2))]) hx hb dX8_keep_85 hl (k := 0) rfl (nI_add kk_9 1) (by decide) rfl (fun ls hl => ?_)
        refine lv_goto (tgt := 55) hx hb dX8_keep_88 (by decide) ?_
        exact ih_9 _ (kk_9 + 1, f_23) _ _ _ (by omega) ⟨rfl, ⟨by omega, him_23⟩, hP, hD, hS, (lv_sub hl [0, 1, 2, 3] rfl)⟩
  · refine lv_if_ne (tgt := 14) hx hb dX8_keep_7 (by decide) (fun h => absurd (by decide) h) (fun _ => ?_)
    refine lv_sipush (v := (-1001)) hx hb dX8_keep_10 (by decide) ?_
    have hP9 := hP.sub (ws' := [((a 0), .inr (8, [.ref (a 1), .ref (a 2), .ref (a 3), .ref (a 4), .ref (a 5), .int (nI tx), .int fp, .int (nI t0), .long wd, .int (nI we), .int nu, .int na, .int (nI rd), .ref (a 14), .ref (a 15), .ref (a 16), .int ts, .ref (a 18), .ref (a 19), .ref (a 20), .ref (a 21), .ref (a 22), .ref (a 23), .int (nI ru), .ref (a 25), .ref (a 26), .ref (a 27), .ref (a 28), .ref (a 29), .ref (a 30), .int (nI rw), .ref (a 32), .ref (a 33), .ref (a 34), .int (nI ca), .ref (a 36), .ref (a 37), .int df, .int db, .ref (a 40), .ref (a 41), .int sd, .ref (a 43), .ref (a 44)])), ((a 32), .inl (k 2, 24, .inl frow)), ((a 36), .inl (k 1, 4, .inl fwalks)), ((a 37), .inl (k 1, 4, .inl (nF br))), ((a 43), .inl (k 2, 2, .inl fisKept)), ((a 44), .inl (k 1, 70, .inl fimages))]) [0, 1, 2, 3, 4, 5] rfl
    have hD9 := hD.sub (ws' := [((a 0), .inr (8, [.ref (a 1), .ref (a 2), .ref (a 3), .ref (a 4), .ref (a 5), .int (nI tx), .int fp, .int (nI t0), .long wd, .int (nI we), .int nu, .int na, .int (nI rd), .ref (a 14), .ref (a 15), .ref (a 16), .int ts, .ref (a 18), .ref (a 19), .ref (a 20), .ref (a 21), .ref (a 22), .ref (a 23), .int (nI ru), .ref (a 25), .ref (a 26), .ref (a 27), .ref (a 28), .ref (a 29), .ref (a 30), .int (nI rw), .ref (a 32), .ref (a 33), .ref (a 34), .int (nI ca), .ref (a 36), .ref (a 37), .int df, .int db, .ref (a 40), .ref (a 41), .int sd, .ref (a 43), .ref (a 44)])), ((a 32), .inl (k 2, 24, .inl frow)), ((a 36), .inl (k 1, 4, .inl fwalks)), ((a 37), .inl (k 1, 4, .inl (nF br))), ((a 43), .inl (k 2, 2, .inl fisKept)), ((a 44), .inl (k 1, 70, .inl fimages))]) [0, 1, 2, 3, 4, 5] (by decide) rfl
    exact W.iret (v := (-1001)) hx hb hr (fun t ht hW => ⟨⟨(-1001), (fisKept, fimages), rfl, ⟨him, fun h => absurd h hw_1, fun _ => rfl⟩, by rw [ht]; exact hP9, hD9⟩, hS.F ht⟩) hS.2.2 dX8_keep_13


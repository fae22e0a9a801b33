theorem dX8_goBack_0 : decode cX8_goBack 0 = .ok (.iload_n 1, 1) := by decide +kernel
theorem dX8_goBack_1 : decode cX8_goBack 1 = .ok (.i2l, 1) := by decide +kernel
theorem dX8_goBack_2 : decode cX8_goBack 2 = .ok (.lconst 0, 1) := by decide +kernel
theorem dX8_goBack_3 : decode cX8_goBack 3 = .ok (.lconst 1, 1) := by decide +kernel
theorem dX8_goBack_4 : decode cX8_goBack 4 = .ok (.invokestatic 107, 3) := by decide +kernel
theorem dX8_goBack_7 : decode cX8_goBack 7 = .ok (.ifCond .ne 7, 3) := by decide +kernel
theorem dX8_goBack_10 : decode cX8_goBack 10 = .ok (.sipush (-1001), 3) := by decide +kernel
theorem dX8_goBack_13 : decode cX8_goBack 13 = .ok (.ireturn, 1) := by decide +kernel
theorem dX8_goBack_14 : decode cX8_goBack 14 = .ok (.aload_n 0, 1) := by decide +kernel
theorem dX8_goBack_15 : decode cX8_goBack 15 = .ok (.getfield 96, 3) := by decide +kernel
theorem dX8_goBack_18 : decode cX8_goBack 18 = .ok (.iload_n 1, 1) := by decide +kernel
theorem dX8_goBack_19 : decode cX8_goBack 19 = .ok (.baload, 1) := by decide +kernel
theorem dX8_goBack_20 : decode cX8_goBack 20 = .ok (.ifCond .ne 7, 3) := by decide +kernel
theorem dX8_goBack_23 : decode cX8_goBack 23 = .ok (.sipush (-1003), 3) := by decide +kernel
theorem dX8_goBack_26 : decode cX8_goBack 26 = .ok (.ireturn, 1) := by decide +kernel
theorem dX8_goBack_27 : decode cX8_goBack 27 = .ok (.bipush 35, 2) := by decide +kernel
theorem dX8_goBack_29 : decode cX8_goBack 29 = .ok (.iload_n 1, 1) := by decide +kernel
theorem dX8_goBack_30 : decode cX8_goBack 30 = .ok (.imul, 1) := by decide +kernel
theorem dX8_goBack_31 : decode cX8_goBack 31 = .ok (.istore_n 2, 1) := by decide +kernel
theorem dX8_goBack_32 : decode cX8_goBack 32 = .ok (.aload_n 0, 1) := by decide +kernel
theorem dX8_goBack_33 : decode cX8_goBack 33 = .ok (.aload_n 0, 1) := by decide +kernel
theorem dX8_goBack_34 : decode cX8_goBack 34 = .ok (.getfield 99, 3) := by decide +kernel
theorem dX8_goBack_37 : decode cX8_goBack 37 = .ok (.iload_n 2, 1) := by decide +kernel
theorem dX8_goBack_38 : decode cX8_goBack 38 = .ok (.iaload, 1) := by decide +kernel
theorem dX8_goBack_39 : decode cX8_goBack 39 = .ok (.putfield 304, 3) := by decide +kernel
theorem dX8_goBack_42 : decode cX8_goBack 42 = .ok (.aload_n 0, 1) := by decide +kernel
theorem dX8_goBack_43 : decode cX8_goBack 43 = .ok (.aload_n 0, 1) := by decide +kernel
theorem dX8_goBack_44 : decode cX8_goBack 44 = .ok (.getfield 99, 3) := by decide +kernel
theorem dX8_goBack_47 : decode cX8_goBack 47 = .ok (.iload_n 2, 1) := by decide +kernel
theorem dX8_goBack_48 : decode cX8_goBack 48 = .ok (.iconst 1, 1) := by decide +kernel
theorem dX8_goBack_49 : decode cX8_goBack 49 = .ok (.iadd, 1) := by decide +kernel
theorem dX8_goBack_50 : decode cX8_goBack 50 = .ok (.iaload, 1) := by decide +kernel
theorem dX8_goBack_51 : decode cX8_goBack 51 = .ok (.putfield 315, 3) := by decide +kernel
theorem dX8_goBack_54 : decode cX8_goBack 54 = .ok (.aload_n 0, 1) := by decide +kernel
theorem dX8_goBack_55 : decode cX8_goBack 55 = .ok (.aload_n 0, 1) := by decide +kernel
theorem dX8_goBack_56 : decode cX8_goBack 56 = .ok (.getfield 99, 3) := by decide +kernel
theorem dX8_goBack_59 : decode cX8_goBack 59 = .ok (.iload_n 2, 1) := by decide +kernel
theorem dX8_goBack_60 : decode cX8_goBack 60 = .ok (.iconst 2, 1) := by decide +kernel
theorem dX8_goBack_61 : decode cX8_goBack 61 = .ok (.iadd, 1) := by decide +kernel
theorem dX8_goBack_62 : decode cX8_goBack 62 = .ok (.iaload, 1) := by decide +kernel
theorem dX8_goBack_63 : decode cX8_goBack 63 = .ok (.putfield 374, 3) := by decide +kernel
theorem dX8_goBack_66 : decode cX8_goBack 66 = .ok (.iconst 0, 1) := by decide +kernel
theorem dX8_goBack_67 : decode cX8_goBack 67 = .ok (.istore_n 3, 1) := by decide +kernel
theorem dX8_goBack_68 : decode cX8_goBack 68 = .ok (.iload_n 3, 1) := by decide +kernel
theorem dX8_goBack_69 : decode cX8_goBack 69 = .ok (.bipush 24, 2) := by decide +kernel
theorem dX8_goBack_71 : decode cX8_goBack 71 = .ok (.if_icmp .ge 34, 3) := by decide +kernel
theorem dX8_goBack_74 : decode cX8_goBack 74 = .ok (.aload_n 0, 1) := by decide +kernel
theorem dX8_goBack_75 : decode cX8_goBack 75 = .ok (.getfield 75, 3) := by decide +kernel
theorem dX8_goBack_78 : decode cX8_goBack 78 = .ok (.iload_n 3, 1) := by decide +kernel
theorem dX8_goBack_79 : decode cX8_goBack 79 = .ok (.aload_n 0, 1) := by decide +kernel
theorem dX8_goBack_80 : decode cX8_goBack 80 = .ok (.getfield 99, 3) := by decide +kernel
theorem dX8_goBack_83 : decode cX8_goBack 83 = .ok (.iload_n 2, 1) := by decide +kernel
theorem dX8_goBack_84 : decode cX8_goBack 84 = .ok (.iconst 3, 1) := by decide +kernel
theorem dX8_goBack_85 : decode cX8_goBack 85 = .ok (.iadd, 1) := by decide +kernel
theorem dX8_goBack_86 : decode cX8_goBack 86 = .ok (.iload_n 3, 1) := by decide +kernel
theorem dX8_goBack_87 : decode cX8_goBack 87 = .ok (.iadd, 1) := by decide +kernel
theorem dX8_goBack_88 : decode cX8_goBack 88 = .ok (.iaload, 1) := by decide +kernel
theorem dX8_goBack_89 : decode cX8_goBack 89 = .ok (.iconst 1, 1) := by decide +kernel
theorem dX8_goBack_90 : decode cX8_goBack 90 = .ok (.if_icmp .ne 7, 3) := by decide +kernel
theorem dX8_goBack_93 : decode cX8_goBack 93 = .ok (.iconst 1, 1) := by decide +kernel
theorem dX8_goBack_94 : decode cX8_goBack 94 = .ok (.goto 4, 3) := by decide +kernel
theorem dX8_goBack_97 : decode cX8_goBack 97 = .ok (.iconst 0, 1) := by decide +kernel
theorem dX8_goBack_98 : decode cX8_goBack 98 = .ok (.bastore, 1) := by decide +kernel
theorem dX8_goBack_99 : decode cX8_goBack 99 = .ok (.iinc 3 1, 3) := by decide +kernel
theorem dX8_goBack_102 : decode cX8_goBack 102 = .ok (.goto (-34), 3) := by decide +kernel
theorem dX8_goBack_105 : decode cX8_goBack 105 = .ok (.iconst 0, 1) := by decide +kernel
theorem dX8_goBack_106 : decode cX8_goBack 106 = .ok (.istore_n 3, 1) := by decide +kernel
theorem dX8_goBack_107 : decode cX8_goBack 107 = .ok (.iload_n 3, 1) := by decide +kernel
theorem dX8_goBack_108 : decode cX8_goBack 108 = .ok (.iconst 4, 1) := by decide +kernel
theorem dX8_goBack_109 : decode cX8_goBack 109 = .ok (.if_icmp .ge 43, 3) := by decide +kernel
theorem dX8_goBack_112 : decode cX8_goBack 112 = .ok (.aload_n 0, 1) := by decide +kernel
theorem dX8_goBack_113 : decode cX8_goBack 113 = .ok (.getfield 84, 3) := by decide +kernel
theorem dX8_goBack_116 : decode cX8_goBack 116 = .ok (.iload_n 3, 1) := by decide +kernel
theorem dX8_goBack_117 : decode cX8_goBack 117 = .ok (.aload_n 0, 1) := by decide +kernel
theorem dX8_goBack_118 : decode cX8_goBack 118 = .ok (.getfield 99, 3) := by decide +kernel
theorem dX8_goBack_121 : decode cX8_goBack 121 = .ok (.iload_n 2, 1) := by decide +kernel
theorem dX8_goBack_122 : decode cX8_goBack 122 = .ok (.bipush 27, 2) := by decide +kernel
theorem dX8_goBack_124 : decode cX8_goBack 124 = .ok (.iadd, 1) := by decide +kernel
theorem dX8_goBack_125 : decode cX8_goBack 125 = .ok (.iload_n 3, 1) := by decide +kernel
theorem dX8_goBack_126 : decode cX8_goBack 126 = .ok (.iadd, 1) := by decide +kernel
theorem dX8_goBack_127 : decode cX8_goBack 127 = .ok (.iaload, 1) := by decide +kernel
theorem dX8_goBack_128 : decode cX8_goBack 128 = .ok (.iastore, 1) := by decide +kernel
theorem dX8_goBack_129 : decode cX8_goBack 129 = .ok (.aload_n 0, 1) := by decide +kernel
theorem dX8_goBack_130 : decode cX8_goBack 130 = .ok (.getfield 87, 3) := by decide +kernel
theorem dX8_goBack_133 : decode cX8_goBack 133 = .ok (.iload_n 3, 1) := by decide +kernel
theorem dX8_goBack_134 : decode cX8_goBack 134 = .ok (.aload_n 0, 1) := by decide +kernel
theorem dX8_goBack_135 : decode cX8_goBack 135 = .ok (.getfield 99, 3) := by decide +kernel
theorem dX8_goBack_138 : decode cX8_goBack 138 = .ok (.iload_n 2, 1) := by decide +kernel
theorem dX8_goBack_139 : decode cX8_goBack 139 = .ok (.bipush 31, 2) := by decide +kernel
theorem dX8_goBack_141 : decode cX8_goBack 141 = .ok (.iadd, 1) := by decide +kernel
theorem dX8_goBack_142 : decode cX8_goBack 142 = .ok (.iload_n 3, 1) := by decide +kernel
theorem dX8_goBack_143 : decode cX8_goBack 143 = .ok (.iadd, 1) := by decide +kernel
theorem dX8_goBack_144 : decode cX8_goBack 144 = .ok (.iaload, 1) := by decide +kernel
theorem dX8_goBack_145 : decode cX8_goBack 145 = .ok (.iastore, 1) := by decide +kernel
theorem dX8_goBack_146 : decode cX8_goBack 146 = .ok (.iinc 3 1, 3) := by decide +kernel
theorem dX8_goBack_149 : decode cX8_goBack 149 = .ok (.goto (-42), 3) := by decide +kernel
theorem dX8_goBack_152 : decode cX8_goBack 152 = .ok (.iconst 1, 1) := by decide +kernel
theorem dX8_goBack_153 : decode cX8_goBack 153 = .ok (.ireturn, 1) := by decide +kernel
set_option maxHeartbeats 4000000 in
set_option maxRecDepth 100000 in
theorem m_goBack (l : Launch) (D : va_G) (k : Nat → ClassId) (st : Nat → Nat) (lo : Nat) (a : Nat → Nat) (tx : Nat) (t0 : Nat) (we : Nat) (rd : Nat) (ru : Nat) (rw : Nat) (ca : Nat) (fp : Int32) (wd : Int64) (nu : Int32) (na : Int32) (ts : Int32) (df : Int32) (db : Int32) (sd : Int32) (fisKept : Nat → Int32) (fimages : Nat → Int32) (frow : Nat → Int32) (fwalks : Nat → Int32) (br : Nat → Nat) (pz : Int32) (hrw : rw ≤ 24) (hca : ca ≤ 4) (hbr : ∀ j, br j ≤ 24) (him : imOK fimages) : CWi l D k st lo yX8_goBack cX8_goBack 4 (some .int) ({ frames := 1, cells := 0, slots := 0, locals := 25 }) 0 0 [.ref (a 0), .int pz] [((a 0), .inr (8, [.ref (a 1), .ref (a 2), .ref (a 3), .ref (a 4), .ref (a 5), .int (nI tx), .int fp, .int (nI t0), .long wd, .int (nI we), .int nu, .int na, .int (nI rd), .ref (a 14), .ref (a 15), .ref (a 16), .int ts, .ref (a 18), .ref (a 19), .ref (a 20), .ref (a 21), .ref (a 22), .ref (a 23), .int (nI ru), .ref (a 25), .ref (a 26), .ref (a 27), .ref (a 28), .ref (a 29), .ref (a 30), .int (nI rw), .ref (a 32), .ref (a 33), .ref (a 34), .int (nI ca), .ref (a 36), .ref (a 37), .int df, .int db, .ref (a 40), .ref (a 41), .int sd, .ref (a 43), .ref (a 44)])), ((a 43), .inl (k 2, 2, .inl fisKept)), ((a 44), .inl (k 1, 70, .inl fimages)), ((a 32), .inl (k 2, 24, .inl frow)), ((a 36), .inl (k 1, 4, .inl fwalks)), ((a 37), .inl (k 1, 4, .inl (nF br)))] (fun (r : Int32) (u : Nat × Nat × Int32 × (Nat → Int32) × (Nat → Int32) × (Nat → Nat)) => match u with | (rw_, ca_, sd_, frow_, fwalks_, br_) => rw_ ≤ 24 ∧ ca_ ≤ 4 ∧ (∀ j, br_ j ≤ 24)) (fun (u : Nat × Nat × Int32 × (Nat → Int32) × (Nat → Int32) × (Nat → Nat)) => match u with | (rw_, ca_, sd_, frow_, fwalks_, br_) => [((a 0), .inr (8, [.ref (a 1), .ref (a 2), .ref (a 3), .ref (a 4), .ref (a 5), .int (nI tx), .int fp, .int (nI t0), .long wd, .int (nI we), .int nu, .int na, .int (nI rd), .ref (a 14), .ref (a 15), .ref (a 16), .int ts, .ref (a 18), .ref (a 19), .ref (a 20), .ref (a 21), .ref (a 22), .ref (a 23), .int (nI ru), .ref (a 25), .ref (a 26), .ref (a 27), .ref (a 28), .ref (a 29), .ref (a 30), .int (nI rw_), .ref (a 32), .ref (a 33), .ref (a 34), .int (nI ca_), .ref (a 36), .ref (a 37), .int df, .int db, .ref (a 40), .ref (a 41), .int sd_, .ref (a 43), .ref (a 44)])), ((a 43), .inl (k 2, 2, .inl fisKept)), ((a 44), .inl (k 1, 70, .inl fimages)), ((a 32), .inl (k 2, 24, .inl frow_)), ((a 36), .inl (k 1, 4, .inl fwalks_)), ((a 37), .inl (k 1, 4, .inl (nF br_)))]) := by
  intro sz
  refine Met.ofW (cc := cX8_goBack) (maxL := 4) (ret := (some .int)) (by decide) rfl ?_
  intro p e s m args below meth c s₁ B hml hv
  obtain ⟨rfl, hsz, hlo, hP, hK, hDL, hZ⟩ := hv
  have hx := B.exec
  have hb := B.bytes
  have hr := B.returns
  have hts := WS_ts B.pre
  have hown : s.vm.findClass RX8 = some m.cls := findClass_of_methodNamed B.named
  have hlocks := B.notSynchronized
  subst hsz
  have hD := hDL.self (sz := s.heap.size)
  have hAlo := A_lo hDL hlo
  generalize hAe : va_A [((a 0), .inr (8, [.ref (a 1), .ref (a 2), .ref (a 3), .ref (a 4), .ref (a 5), .int (nI tx), .int fp, .int (nI t0), .long wd, .int (nI we), .int nu, .int na, .int (nI rd), .ref (a 14), .ref (a 15), .ref (a 16), .int ts, .ref (a 18), .ref (a 19), .ref (a 20), .ref (a 21), .ref (a 22), .ref (a 23), .int (nI ru), .ref (a 25), .ref (a 26), .ref (a 27), .ref (a 28), .ref (a 29), .ref (a 30), .int (nI rw), .ref (a 32), .ref (a 33), .ref (a 34), .int (nI ca), .ref (a 36), .ref (a 37), .int df, .int db, .ref (a 40), .ref (a 41), .int sd, .ref (a 43), .ref (a 44)])), ((a 43), .inl (k 2, 2, .inl fisKept)), ((a 44), .inl (k 1, 70, .inl fimages)), ((a 32), .inl (k 2, 24, .inl frow)), ((a 36), .inl (k 1, 4, .inl fwalks)), ((a 37), .inl (k 1, 4, .inl (nF br)))] s.heap.size = A at hD hAlo ⊢
  have hA : ∀ q : Nat, s.heap.size ≤ q → A q := fun q h => by rw [← hAe]; exact Or.inr h
  have hS : va_S A s.heap s.heap [] := va_S.rf
  have hl := lv_entry ([.ref (a 0), .int pz]) (n := 4) (Nat.le_of_ble_eq_true rfl)
  rw [lg_entry_eq]
  generalize (lg_sl ([.ref (a 0), .int pz]) ++ List.replicate (4 - (lg_sl ([.ref (a 0), .int pz])).length) Slot.unset).toArray = ls at hl ⊢
  have hl : lv_has ls 4 [(0, .ref (a 0)), (1, .int pz)] := hl
  refine lv_iload_n hx hb dX8_goBack_0 rfl (lv_at hl 1 rfl) ?_
  refine lv_i2l (v := pz.toInt64) hx hb dX8_goBack_1 rfl ?_
  refine lv_lconst (v := (0 : Int32).toInt64) hx hb dX8_goBack_2 (by decide) ?_
  refine lv_lconst (v := (1 : Int32).toInt64) hx hb dX8_goBack_3 (by decide) ?_
  refine ro_i (D := D) (va_runS (As := [.long (pz.toInt64), .long ((0 : Int32).toInt64), .long ((1 : Int32).toInt64)]) (rest := []) ⟨hx, hb, hml, hown, hts⟩ ((k_in l D k st lo pz (0 : Int32) (1 : Int32)) s.heap.size) (va_cwS 3 hts (gS tw_1111 tw_1112 tw_87 tw_1113) rfl rfl rfl (by decide +kernel) ⟨Nat.le_of_ble_eq_true rfl, Nat.le_of_ble_eq_true rfl⟩) (pS hS hAlo hlo hP hK (va_Dlo hD hAlo) hZ [] (by decide) rfl) rfl rfl hl.1 rfl (lv_room (Nat.le_of_ble_eq_true rfl)) dX8_goBack_4 ⟨Nat.le_of_ble_eq_true rfl, Nat.le_of_ble_eq_true rfl⟩) hS hA hP (fun r_1 H locs hw_1 hP hS => ?_)
  try dsimp only at hw_1
  rcases hw_1 with ⟨rfl, hw_1⟩ | ⟨rfl, hw_1⟩
  · refine lv_if_ne (tgt := 14) hx hb dX8_goBack_7 (by decide) (fun _ => ?_) (fun h => absurd h (by decide))
    obtain ⟨nb_2, hnl_2, hnh_2, rfl⟩ := inB_ofc (a := 0) (b := 1) (by omega) (by omega) hw_1
    refine lv_aload_n hx hb dX8_goBack_14 rfl (lv_at hl 0 rfl) ?_
    refine va_get (D := D) (ci := 8) (v := .ref (a 43)) (C := RX8) (T := TX8) (N := 44) hx hb hts inX8 hown hK hP 0 rfl rfl 42 (by decide) (hts _ tw_1015) (fun _ h9 => h9) rfl dX8_goBack_15 ?_
    refine lv_iload_n hx hb dX8_goBack_18 rfl (lv_at hl 1 rfl) ?_
    refine va_zald hx hb hK hP 1 2 rfl rfl (vp_in_nI (by omega) (by decide)) dX8_goBack_19 ?_
    refine lv_ti (y := (fisKept nb_2)) (by rw [nI_clamp (by omega)]) ?_
    refine lv_if_ne (tgt := 27) hx hb dX8_goBack_20 (by decide) (fun c_3 => ?_) (fun c_3 => ?_)
    · refine lv_bipush (v := 35) hx hb dX8_goBack_27 (by decide) ?_
      refine lv_iload_n hx hb dX8_goBack_29 rfl (lv_at hl 1 rfl) ?_
      refine lv_imul hx hb dX8_goBack_30 ?_
      refine lv_ti (y := (nI (35 * nb_2))) (pk_mul 35 nb_2) ?_
      refine lv_istore_n (lv' := [(2, .int (nI (35 * nb_2))), (0, .ref (a 0)), (1, .int (nI nb_2))]) hx hb dX8_goBack_31 rfl hl (by decide) rfl (fun ls hl => ?_)
      refine lv_aload_n hx hb dX8_goBack_32 rfl (lv_at hl 1 rfl) ?_
      refine lv_aload_n hx hb dX8_goBack_33 rfl (lv_at hl 1 rfl) ?_
      refine va_get (D := D) (ci := 8) (v := .ref (a 44)) (C := RX8) (T := TX8) (N := 44) hx hb hts inX8 hown hK hP 0 rfl rfl 43 (by decide) (hts _ tw_1016) (fun _ h9 => h9) rfl dX8_goBack_34 ?_
      refine lv_iload_n hx hb dX8_goBack_37 rfl (lv_at hl 0 rfl) ?_
      refine va_iald hx hb hK hP 2 1 rfl rfl (vp_in_nI (by omega) (by decide)) dX8_goBack_38 ?_
      obtain ⟨ig_4, hig_4, eig_4⟩ := (him (35 * nb_2)).1 (by omega)
      refine lv_ti (y := (nI ig_4)) (by rw [nI_clamp (by omega)]; exact eig_4) ?_
      refine va_put (D := D) (ci := 8) (v := .int (nI ig_4)) (ty := .int) (C := RX8) (T := TX8) (N := 44) hx hb hts inX8 tyX8 tyX8_ok nmX8 hown hK hP hD hS 0 rfl rfl 30 (by decide) (hts _ tw_1003) (fun _ h9 => h9) rfl (by decide +kernel) rfl rfl (Nat.le_of_ble_eq_true rfl) dX8_goBack_39 (fun H locs hP hD hS => ?_)
      replace hP : va_P D classes [((a 0), .inr (8, [.ref (a 1), .ref (a 2), .ref (a 3), .ref (a 4), .ref (a 5), .int (nI tx), .int fp, .int (nI t0), .long wd, .int (nI we), .int nu, .int na, .int (nI rd), .ref (a 14), .ref (a 15), .ref (a 16), .int ts, .ref (a 18), .ref (a 19), .ref (a 20), .ref (a 21), .ref (a 22), .ref (a 23), .int (nI ru), .ref (a 25), .ref (a 26), .ref (a 27), .ref (a 28), .ref (a 29), .ref (a 30), .int (nI ig_4), .ref (a 32), .ref (a 33), .ref (a 34), .int (nI ca), .ref (a 36), .ref (a 37), .int df, .int db, .ref (a 40), .ref (a 41), .int sd, .ref (a 43), .ref (a 44)])), ((a 43), .inl (k 2, 2, .inl fisKept)), ((a 44), .inl (k 1, 70, .inl fimages)), ((a 32), .inl (k 2, 24, .inl frow)), ((a 36), .inl (k 1, 4, .inl fwalks)), ((a 37), .inl (k 1, 4, .inl (nF br)))] H := hP
      replace hD : va_D A [((a 0), .inr (8, [.ref (a 1), .ref (a 2), .ref (a 3), .ref (a 4), .ref (a 5), .int (nI tx), .int fp, .int (nI t0), .long wd, .int (nI we), .int nu, .int na, .int (nI rd), .ref (a 14), .ref (a 15), .ref (a 16), .int ts, .ref (a 18), .ref (a 19), .ref (a 20), .ref (a 21), .ref (a 22), .ref (a 23), .int (nI ru), .ref (a 25), .ref (a 26), .ref (a 27), .ref (a 28), .ref (a 29), .ref (a 30), .int (nI ig_4), .ref (a 32), .ref (a 33), .ref (a 34), .int (nI ca), .ref (a 36), .ref (a 37), .int df, .int db, .ref (a 40), .ref (a 41), .int sd, .ref (a 43), .ref (a 44)])), ((a 43), .inl (k 2, 2, .inl fisKept)), ((a 44), .inl (k 1, 70, .inl fimages)), ((a 32), .inl (k 2, 24, .inl frow)), ((a 36), .inl (k 1, 4, .inl fwalks)), ((a 37), .inl (k 1, 4, .inl (nF br)))] := hD
      refine lv_aload_n hx hb dX8_goBack_42 rfl (lv_at hl 1 rfl) ?_
      refine lv_aload_n hx hb dX8_goBack_43 rfl (lv_at hl 1 rfl) ?_
      refine va_get (D := D) (ci := 8) (v := .ref (a 44)) (C := RX8) (T := TX8) (N := 44) hx hb hts inX8 hown hK hP 0 rfl rfl 43 (by decide) (hts _ tw_1016) (fun _ h9 => h9) rfl dX8_goBack_44 ?_
      refine lv_iload_n hx hb dX8_goBack_47 rfl (lv_at hl 0 rfl) ?_
      refine lv_iconst (v := 1) hx hb dX8_goBack_48 (by decide) ?_
      refine lv_iadd hx hb dX8_goBack_49 ?_
      refine lv_ti (y := (nI (35 * nb_2 + 1))) (nI_add (35 * nb_2) 1) ?_
      refine va_iald hx hb hK hP 2 1 rfl rfl (vp_in_nI (by omega) (by decide)) dX8_goBack_50 ?_
      obtain ⟨ig_5, hig_5, eig_5⟩ := (him (35 * nb_2 + 1)).2.1 (by omega)
      refine lv_ti (y := (nI ig_5)) (by rw [nI_clamp (by omega)]; exact eig_5) ?_
      refine va_put (D := D) (ci := 8) (v := .int (nI ig_5)) (ty := .int) (C := RX8) (T := TX8) (N := 44) hx hb hts inX8 tyX8 tyX8_ok nmX8 hown hK hP hD hS 0 rfl rfl 34 (by decide) (hts _ tw_1007) (fun _ h9 => h9) rfl (by decide +kernel) rfl rfl (Nat.le_of_ble_eq_true rfl) dX8_goBack_51 (fun H locs hP hD hS => ?_)
      replace hP : va_P D classes [((a 0), .inr (8, [.ref (a 1), .ref (a 2), .ref (a 3), .ref (a 4), .ref (a 5), .int (nI tx), .int fp, .int (nI t0), .long wd, .int (nI we), .int nu, .int na, .int (nI rd), .ref (a 14), .ref (a 15), .ref (a 16), .int ts, .ref (a 18), .ref (a 19), .ref (a 20), .ref (a 21), .ref (a 22), .ref (a 23), .int (nI ru), .ref (a 25), .ref (a 26), .ref (a 27), .ref (a 28), .ref (a 29), .ref (a 30), .int (nI ig_4), .ref (a 32), .ref (a 33), .ref (a 34), .int (nI ig_5), .ref (a 36), .ref (a 37), .int df, .int db, .ref (a 40), .ref (a 41), .int sd, .ref (a 43), .ref (a 44)])), ((a 43), .inl (k 2, 2, .inl fisKept)), ((a 44), .inl (k 1, 70, .inl fimages)), ((a 32), .inl (k 2, 24, .inl frow)), ((a 36), .inl (k 1, 4, .inl fwalks)), ((a 37), .inl (k 1, 4, .inl (nF br)))] H := hP
      replace hD : va_D A [((a 0), .inr (8, [.ref (a 1), .ref (a 2), .ref (a 3), .ref (a 4), .ref (a 5), .int (nI tx), .int fp, .int (nI t0), .long wd, .int (nI we), .int nu, .int na, .int (nI rd), .ref (a 14), .ref (a 15), .ref (a 16), .int ts, .ref (a 18), .ref (a 19), .ref (a 20), .ref (a 21), .ref (a 22), .ref (a 23), .int (nI ru), .ref (a 25), .ref (a 26), .ref (a 27), .ref (a 28), .ref (a 29), .ref (a 30), .int (nI ig_4), .ref (a 32), .ref (a 33), .ref (a 34), .int (nI ig_5), .ref (a 36), .ref (a 37), .int df, .int db, .ref (a 40), .ref (a 41), .int sd, .ref (a 43), .ref (a 44)])), ((a 43), .inl (k 2, 2, .inl fisKept)), ((a 44), .inl (k 1, 70, .inl fimages)), ((a 32), .inl (k 2, 24, .inl frow)), ((a 36), .inl (k 1, 4, .inl fwalks)), ((a 37), .inl (k 1, 4, .inl (nF br)))] := hD
      refine lv_aload_n hx hb dX8_goBack_54 rfl (lv_at hl 1 rfl) ?_
      refine lv_aload_n hx hb dX8_goBack_55 rfl (lv_at hl 1 rfl) ?_
      refine va_get (D := D) (ci := 8) (v := .ref (a 44)) (C := RX8) (T := TX8) (N := 44) hx hb hts inX8 hown hK hP 0 rfl rfl 43 (by decide) (hts _ tw_1016) (fun _ h9 => h9) rfl dX8_goBack_56 ?_
      refine lv_iload_n hx hb dX8_goBack_59 rfl (lv_at hl 0 rfl) ?_
      refine lv_iconst (v := 2) hx hb dX8_goBack_60 (by decide) ?_
      refine lv_iadd hx hb dX8_goBack_61 ?_
      refine lv_ti (y := (nI (35 * nb_2 + 2))) (nI_add (35 * nb_2) 2) ?_
      refine va_iald hx hb hK hP 2 1 rfl rfl (vp_in_nI (by omega) (by decide)) dX8_goBack_62 ?_
      refine lv_ti (y := (fimages (35 * nb_2 + 2))) (by rw [nI_clamp (by omega)]) ?_
      refine va_put (D := D) (ci := 8) (v := .int (fimages (35 * nb_2 + 2))) (ty := .int) (C := RX8) (T := TX8) (N := 44) hx hb hts inX8 tyX8 tyX8_ok nmX8 hown hK hP hD hS 0 rfl rfl 41 (by decide) (hts _ tw_1014) (fun _ h9 => h9) rfl (by decide +kernel) rfl rfl (Nat.le_of_ble_eq_true rfl) dX8_goBack_63 (fun H locs hP hD hS => ?_)
      replace hP : va_P D classes [((a 0), .inr (8, [.ref (a 1), .ref (a 2), .ref (a 3), .ref (a 4), .ref (a 5), .int (nI tx), .int fp, .int (nI t0), .long wd, .int (nI we), .int nu, .int na, .int (nI rd), .ref (a 14), .ref (a 15), .ref (a 16), .int ts, .ref (a 18), .ref (a 19), .ref (a 20), .ref (a 21), .ref (a 22), .ref (a 23), .int (nI ru), .ref (a 25), .ref (a 26), .ref (a 27), .ref (a 28), .ref (a 29), .ref (a 30), .int (nI ig_4), .ref (a 32), .ref (a 33), .ref (a 34), .int (nI ig_5), .ref (a 36), .ref (a 37), .int df, .int db, .ref (a 40), .ref (a 41), .int (fimages (35 * nb_2 + 2)), .ref (a 43), .ref (a 44)])), ((a 43), .inl (k 2, 2, .inl fisKept)), ((a 44), .inl (k 1, 70, .inl fimages)), ((a 32), .inl (k 2, 24, .inl frow)), ((a 36), .inl (k 1, 4, .inl fwalks)), ((a 37), .inl (k 1, 4, .inl (nF br)))] H := hP
      replace hD : va_D A [((a 0), .inr (8, [.ref (a 1), .ref (a 2), .ref (a 3), .ref (a 4), .ref (a 5), .int (nI tx), .int fp, .int (nI t0), .long wd, .int (nI we), .int nu, .int na, .int (nI rd), .ref (a 14), .ref (a 15), .ref (a 16), .int ts, .ref (a 18), .ref (a 19), .ref (a 20), .ref (a 21), .ref (a 22), .ref (a 23), .int (nI ru), .ref (a 25), .ref (a 26), .ref (a 27), .ref (a 28), .ref (a 29), .ref (a 30), .int (nI ig_4), .ref (a 32), .ref (a 33), .ref (a 34), .int (nI ig_5), .ref (a 36), .ref (a 37), .int df, .int db, .ref (a 40), .ref (a 41), .int (fimages (35 * nb_2 + 2)), .ref (a 43), .ref (a 44)])), ((a 43), .inl (k 2, 2, .inl fisKept)), ((a 44), .inl (k 1, 70, .inl fimages)), ((a 32), .inl (k 2, 24, .inl frow)), ((a 36), .inl (k 1, 4, .inl fwalks)), ((a 37), .inl (k 1, 4, .inl (nF br)))] := hD
      refine lv_iconst (v := 0) hx hb dX8_goBack_66 (by decide) ?_
      refine lv_istore_n (lv' := [(3, .int 0), (2, .int (nI (35 * nb_2))), (0, .ref (a 0)), (1, .int (nI nb_2))]) hx hb dX8_goBack_67 rfl hl (by decide) rfl (fun ls hl => ?_)
      refine W_loop (σ := Nat × (Nat → Int32)) (fun (n_ : Nat) (x_ : Nat × (Nat → Int32)) (H : Heap) (locs : List Loc) (ls : Array Slot) => match x_ with | (kk_6, fr2_6) => n_ = 24 - kk_6 ∧ (kk_6 ≤ 24) ∧ va_P D classes [((a 0), .inr (8, [.ref (a 1), .ref (a 2), .ref (a 3), .ref (a 4), .ref (a 5), .int (nI tx), .int fp, .int (nI t0), .long wd, .int (nI we), .int nu, .int na, .int (nI rd), .ref (a 14), .ref (a 15), .ref (a 16), .int ts, .ref (a 18), .ref (a 19), .ref (a 20), .ref (a 21), .ref (a 22), .ref (a 23), .int (nI ru), .ref (a 25), .ref (a 26), .ref (a 27), .ref (a 28), .ref (a 29), .ref (a 30), .int (nI ig_4), .ref (a 32), .ref (a 33), .ref (a 34), .int (nI ig_5), .ref (a 36), .ref (a 37), .int df, .int db, .ref (a 40), .ref (a 41), .int (fimages (35 * nb_2 + 2)), .ref (a 43), .ref (a 44)])), ((a 43), .inl (k 2, 2, .inl fisKept)), ((a 44), .inl (k 1, 70, .inl fimages)), ((a 32), .inl (k 2, 24, .inl fr2_6)), ((a 36), .inl (k 1, 4, .inl fwalks)), ((a 37), .inl (k 1, 4, .inl (nF br)))] H ∧ va_D A [((a 0), .inr (8, [.ref (a 1), .ref (a 2), .ref (a 3), .ref (a 4), .ref (a 5), .int (nI tx), .int fp, .int (nI t0), .long wd, .int (nI we), .int nu, .int na, .int (nI rd), .ref (a 14), .ref (a 15), .ref (a 16), .int ts, .ref (a 18), .ref (a 19), .ref (a 20), .ref (a 21), .ref (a 22), .ref (a 23), .int (nI ru), .ref (a 25), .ref (a 26), .ref (a 27), .ref (a 28), .ref (a 29), .ref (a 30), .int (nI ig_4), .ref (a 32), .ref (a 33), .ref (a 34), .int (nI ig_5), .ref (a 36), .ref (a 37), .int df, .int db, .ref (a 40), .ref (a 41), .int (fimages (35 * nb_2 + 2)), .ref (a 43), .ref (a 44)])), ((a 43), .inl (k 2, 2, .inl fisKept)), ((a 44), .inl (k 1, 70, .inl fimages)), ((a 32), .inl (k 2, 24, .inl fr2_6)), ((a 36), .inl (k 1, 4, .inl fwalks)), ((a 37), .inl (k 1, 4, .inl (nF br)))] ∧ va_S A s.heap H locs ∧ lv_has ls 4 [(3, .int (nI kk_6)), (2, .int (nI (35 * nb_2))), (0, .ref (a 0)), (1, .int (nI nb_2))]) (fun n_6 x_6 H locs ls hI ih_6 => ?_) _ (0, frow) ⟨rfl, (by omega), hP, hD, hS, (lv_sub hl [0, 1, 2, 3] rfl)⟩
      obtain ⟨kk_6, fr2_6⟩ := x_6
      obtain ⟨hm_6, hv_6, hP, hD, hS, hl⟩ := hI
      subst hm_6
      refine lv_iload_n hx hb dX8_goBack_68 rfl (lv_at hl 0 rfl) ?_
      refine lv_bipush (v := 24) hx hb dX8_goBack_69 (by decide) ?_
      refine lv_icmp_ge (tgt := 105) hx hb dX8_goBack_71 (by decide) (fun c_7 => ?_) (fun c_7 => ?_)
      · have c_7 := (nI_leI (a := 24) (b := kk_6) (by omega) (by omega)).mp c_7
        refine lv_iconst (v := 0) hx hb dX8_goBack_105 (by decide) ?_
        refine lv_istore_n (lv' := [(3, .int 0), (2, .int (nI (35 * nb_2))), (0, .ref (a 0)), (1, .int (nI nb_2))]) hx hb dX8_goBack_106 rfl hl (by decide) rfl (fun ls hl => ?_)
        refine W_loop (σ := Nat × (Nat → Int32) × (Nat → Nat)) (fun (n_ : Nat) (x_ : Nat × (Nat → Int32) × (Nat → Nat)) (H : Heap) (locs : List Loc) (ls : Array Slot) => match x_ with | (kk_8, fw2_8, b2_8) => n_ = 4 - kk_8 ∧ (kk_8 ≤ 4 ∧ (∀ j, b2_8 j ≤ 24)) ∧ va_P D classes [((a 0), .inr (8, [.ref (a 1), .ref (a 2), .ref (a 3), .ref (a 4), .ref (a 5), .int (nI tx), .int fp, .int (nI t0), .long wd, .int (nI we), .int nu, .int na, .int (nI rd), .ref (a 14), .ref (a 15), .ref (a 16), .int ts, .ref (a 18), .ref (a 19), .ref (a 20), .ref (a 21), .ref (a 22), .ref (a 23), .int (nI ru), .ref (a 25), .ref (a 26), .ref (a 27), .ref (a 28), .ref (a 29), .ref (a 30), .int (nI ig_4), .ref (a 32), .ref (a 33), .ref (a 34), .int (nI ig_5), .ref (a 36), .ref (a 37), .int df, .int db, .ref (a 40), .ref (a 41), .int (fimages (35 * nb_2 + 2)), .ref (a 43), .ref (a 44)])), ((a 43), .inl (k 2, 2, .inl fisKept)), ((a 44), .inl (k 1, 70, .inl fimages)), ((a 32), .inl (k 2, 24, .inl fr2_6)), ((a 36), .inl (k 1, 4, .inl fw2_8)), ((a 37), .inl (k 1, 4, .inl (nF b2_8)))] H ∧ va_D A [((a 0), .inr (8, [.ref (a 1), .ref (a 2), .ref (a 3), .ref (a 4), .ref (a 5), .int (nI tx), .int fp, .int (nI t0), .long wd, .int (nI we), .int nu, .int na, .int (nI rd), .ref (a 14), .ref (a 15), .ref (a 16), .int ts, .ref (a 18), .ref (a 19), .ref (a 20), .ref (a 21), .ref (a 22), .ref (a 23), .int (nI ru), .ref (a 25), .ref (a 26), .ref (a 27), .ref (a 28), .ref (a 29), .ref (a 30), .int (nI ig_4), .ref (a 32), .ref (a 33), .ref (a 34), .int (nI ig_5), .ref (a 36), .ref (a 37), .int df, .int db, .ref (a 40), .ref (a 41), .int (fimages (35 * nb_2 + 2)), .ref (a 43), .ref (a 44)])), ((a 43), .inl (k 2, 2, .inl fisKept)), ((a 44), .inl (k 1, 70, .inl fimages)), ((a 32), .inl (k 2, 24, .inl fr2_6)), ((a 36), .inl (k 1, 4, .inl fw2_8)), ((a 37), .inl (k 1, 4, .inl (nF b2_8)))] ∧ va_S A s.heap H locs ∧ lv_has ls 4 [(3, .int (nI kk_8)), (2, .int (nI (35 * nb_2))), (0, .ref (a 0)), (1, .int (nI nb_2))]) (fun n_8 x_8 H locs ls hI ih_8 => ?_) _ (0, fwalks, br) ⟨rfl, ⟨by omega, hbr⟩, hP, hD, hS, (lv_sub hl [0, 1, 2, 3] rfl)⟩
        obtain ⟨kk_8, fw2_8, b2_8⟩ := x_8
        obtain ⟨hm_8, hv_8, hP, hD, hS, hl⟩ := hI
        subst hm_8
        have hbl_8 := hv_8.2
        refine lv_iload_n hx hb dX8_goBack_107 rfl (lv_at hl 0 rfl) ?_
        refine lv_iconst (v := 4) hx hb dX8_goBack_108 (by decide) ?_
        refine lv_icmp_ge (tgt := 152) hx hb dX8_goBack_109 (by decide) (fun c_9 => ?_) (fun c_9 => ?_)
        · have c_9 := (nI_leI (a := 4) (b := kk_8) (by omega) (by omega)).mp c_9
          refine lv_iconst (v := 1) hx hb dX8_goBack_152 (by decide) ?_
          have hP9 := hP.sub (ws' := [((a 0), .inr (8, [.ref (a 1), .ref (a 2), .ref (a 3), .ref (a 4), .ref (a 5), .int (nI tx), .int fp, .int (nI t0), .long wd, .int (nI we), .int nu, .int na, .int (nI rd), .ref (a 14), .ref (a 15), .ref (a 16), .int ts, .ref (a 18), .ref (a 19), .ref (a 20), .ref (a 21), .ref (a 22), .ref (a 23), .int (nI ru), .ref (a 25), .ref (a 26), .ref (a 27), .ref (a 28), .ref (a 29), .ref (a 30), .int (nI ig_4), .ref (a 32), .ref (a 33), .ref (a 34), .int (nI ig_5), .ref (a 36), .ref (a 37), .int df, .int db, .ref (a 40), .ref (a 41), .int (fimages (35 * nb_2 + 2)), .ref (a 43), .ref (a 44)])), ((a 43), .inl (k 2, 2, .inl fisKept)), ((a 44), .inl (k 1, 70, .inl fimages)), ((a 32), .inl (k 2, 24, .inl fr2_6)), ((a 36), .inl (k 1, 4, .inl fw2_8)), ((a 37), .inl (k 1, 4, .inl (nF b2_8)))]) [0, 1, 2, 3, 4, 5] rfl
          have hD9 := hD.sub (ws' := [((a 0), .inr (8, [.ref (a 1), .ref (a 2), .ref (a 3), .ref (a 4), .ref (a 5), .int (nI tx), .int fp, .int (nI t0), .long wd, .int (nI we), .int nu, .int na, .int (nI rd), .ref (a 14), .ref (a 15), .ref (a 16), .int ts, .ref (a 18), .ref (a 19), .ref (a 20), .ref (a 21), .ref (a 22), .ref (a 23), .int (nI ru), .ref (a 25), .ref (a 26), .ref (a 27), .ref (a 28), .ref (a 29), .ref (a 30), .int (nI ig_4), .ref (a 32), .ref (a 33), .ref (a 34), .int (nI ig_5), .ref (a 36), .ref (a 37), .int df, .int db, .ref (a 40), .ref (a 41), .int (fimages (35 * nb_2 + 2)), .ref (a 43), .ref (a 44)])), ((a 43), .inl (k 2, 2, .inl fisKept)), ((a 44), .inl (k 1, 70, .inl fimages)), ((a 32), .inl (k 2, 24, .inl fr2_6)), ((a 36), .inl (k 1, 4, .inl fw2_8)), ((a 37), .inl (k 1, 4, .inl (nF b2_8)))]) [0, 1, 2, 3, 4, 5] (by decide) rfl
          exact W.iret (v := 1) hx hb hr (fun t ht hW => ⟨⟨1, (ig_4, ig_5, (fimages (35 * nb_2 + 2)), fr2_6, fw2_8, b2_8), rfl, ⟨by omega, by omega, hbl_8⟩, by rw [ht]; exact hP9, hD9⟩, hS.F ht⟩) hS.2.2 dX8_goBack_153
        · have c_9 : ¬ (4 ≤ kk_8) := fun h => c_9 ((nI_leI (a := 4) (b := kk_8) (by omega) (by omega)).mpr h)
          refine lv_aload_n hx hb dX8_goBack_112 rfl (lv_at hl 2 rfl) ?_
          refine va_get (D := D) (ci := 8) (v := .ref (a 36)) (C := RX8) (T := TX8) (N := 44) hx hb hts inX8 hown hK hP 0 rfl rfl 35 (by decide) (hts _ tw_1008) (fun _ h9 => h9) rfl dX8_goBack_113 ?_
          refine lv_iload_n hx hb dX8_goBack_116 rfl (lv_at hl 0 rfl) ?_
          refine lv_aload_n hx hb dX8_goBack_117 rfl (lv_at hl 2 rfl) ?_
          refine va_get (D := D) (ci := 8) (v := .ref (a 44)) (C := RX8) (T := TX8) (N := 44) hx hb hts inX8 hown hK hP 0 rfl rfl 43 (by decide) (hts _ tw_1016) (fun _ h9 => h9) rfl dX8_goBack_118 ?_
          refine lv_iload_n hx hb dX8_goBack_121 rfl (lv_at hl 1 rfl) ?_
          refine lv_bipush (v := 27) hx hb dX8_goBack_122 (by decide) ?_
          refine lv_iadd hx hb dX8_goBack_124 ?_
          refine lv_ti (y := (nI (35 * nb_2 + 27))) (nI_add (35 * nb_2) 27) ?_
          refine lv_iload_n hx hb dX8_goBack_125 rfl (lv_at hl 0 rfl) ?_
          refine lv_iadd hx hb dX8_goBack_126 ?_
          refine lv_ti (y := (nI (35 * nb_2 + 27 + kk_8))) (nI_add (35 * nb_2 + 27) kk_8) ?_
          refine va_iald hx hb hK hP 2 1 rfl rfl (vp_in_nI (by omega) (by decide)) dX8_goBack_127 ?_
          refine lv_ti (y := (fimages (35 * nb_2 + 27 + kk_8))) (by rw [nI_clamp (by omega)]) ?_
          refine va_iast hx hb hK hP hD hS 4 1 rfl rfl (vp_in_nI (by omega) (by decide)) dX8_goBack_128 (fun H locs hP hD hS => ?_)
          replace hP : va_P D classes [((a 0), .inr (8, [.ref (a 1), .ref (a 2), .ref (a 3), .ref (a 4), .ref (a 5), .int (nI tx), .int fp, .int (nI t0), .long wd, .int (nI we), .int nu, .int na, .int (nI rd), .ref (a 14), .ref (a 15), .ref (a 16), .int ts, .ref (a 18), .ref (a 19), .ref (a 20), .ref (a 21), .ref (a 22), .ref (a 23), .int (nI ru), .ref (a 25), .ref (a 26), .ref (a 27), .ref (a 28), .ref (a 29), .ref (a 30), .int (nI ig_4), .ref (a 32), .ref (a 33), .ref (a 34), .int (nI ig_5), .ref (a 36), .ref (a 37), .int df, .int db, .ref (a 40), .ref (a 41), .int (fimages (35 * nb_2 + 2)), .ref (a 43), .ref (a 44)])), ((a 43), .inl (k 2, 2, .inl fisKept)), ((a 44), .inl (k 1, 70, .inl fimages)), ((a 32), .inl (k 2, 24, .inl fr2_6)), ((a 36), .inl (k 1, 4, .inl (upd fw2_8 (Int32.toNatClampNeg (nI kk_8)) (fimages (35 * nb_2 + 27 + kk_8))))), ((a 37), .inl (k 1, 4, .inl (nF b2_8)))] H := hP
          replace hD : va_D A [((a 0), .inr (8, [.ref (a 1), .ref (a 2), .ref (a 3), .ref (a 4), .ref (a 5), .int (nI tx), .int fp, .int (nI t0), .long wd, .int (nI we), .int nu, .int na, .int (nI rd), .ref (a 14), .ref (a 15), .ref (a 16), .int ts, .ref (a 18), .ref (a 19), .ref (a 20), .ref (a 21), .ref (a 22), .ref (a 23), .int (nI ru), .ref (a 25), .ref (a 26), .ref (a 27), .ref (a 28), .ref (a 29), .ref (a 30), .int (nI ig_4), .ref (a 32), .ref (a 33), .ref (a 34), .int (nI ig_5), .ref (a 36), .ref (a 37), .int df, .int db, .ref (a 40), .ref (a 41), .int (fimages (35 * nb_2 + 2)), .ref (a 43), .ref (a 44)])), ((a 43), .inl (k 2, 2, .inl fisKept)), ((a 44), .inl (k 1, 70, .inl fimages)), ((a 32), .inl (k 2, 24, .inl fr2_6)), ((a 36), .inl (k 1, 4, .inl (upd fw2_8 (Int32.toNatClampNeg (nI kk_8)) (fimages (35 * nb_2 + 27 + kk_8))))), ((a 37), .inl (k 1, 4, .inl (nF b2_8)))] := hD
          generalize (upd fw2_8 (Int32.toNatClampNeg (nI kk_8)) (fimages (35 * nb_2 + 27 + kk_8))) = f_10 at hP hD
          refine lv_aload_n hx hb dX8_goBack_129 rfl (lv_at hl 2 rfl) ?_
          refine va_get (D := D) (ci := 8) (v := .ref (a 37)) (C := RX8) (T := TX8) (N := 44) hx hb hts inX8 hown hK hP 0 rfl rfl 36 (by decide) (hts _ tw_1009) (fun _ h9 => h9) rfl dX8_goBack_130 ?_
          refine lv_iload_n hx hb dX8_goBack_133 rfl (lv_at hl 0 rfl) ?_
          refine lv_aload_n hx hb dX8_goBack_134 rfl (lv_at hl 2 rfl) ?_
          refine va_get (D := D) (ci := 8) (v := .ref (a 44)) (C := RX8) (T := TX8) (N := 44) hx hb hts inX8 hown hK hP 0 rfl rfl 43 (by decide) (hts _ tw_1016) (fun _ h9 => h9) rfl dX8_goBack_135 ?_
          refine lv_iload_n hx hb dX8_goBack_138 rfl (lv_at hl 1 rfl) ?_
          refine lv_bipush (v := 31) hx hb dX8_goBack_139 (by decide) ?_
          refine lv_iadd hx hb dX8_goBack_141 ?_
          refine lv_ti (y := (nI (35 * nb_2 + 31))) (nI_add (35 * nb_2) 31) ?_
          refine lv_iload_n hx hb dX8_goBack_142 rfl (lv_at hl 0 rfl) ?_
          refine lv_iadd hx hb dX8_goBack_143 ?_
          refine lv_ti (y := (nI (35 * nb_2 + 31 + kk_8))) (nI_add (35 * nb_2 + 31) kk_8) ?_
          refine va_iald hx hb hK hP 2 1 rfl rfl (vp_in_nI (by omega) (by decide)) dX8_goBack_144 ?_
          obtain ⟨ig_11, hig_11, eig_11⟩ := (him (35 * nb_2 + 31 + kk_8)).2.2 (by omega)
          refine lv_ti (y := (nI ig_11)) (by rw [nI_clamp (by omega)]; exact eig_11) ?_
          refine va_iast hx hb hK hP hD hS 5 1 rfl rfl (vp_in_nI (by omega) (by decide)) dX8_goBack_145 (fun H locs hP hD hS => ?_)
          replace hP : va_P D classes [((a 0), .inr (8, [.ref (a 1), .ref (a 2), .ref (a 3), .ref (a 4), .ref (a 5), .int (nI tx), .int fp, .int (nI t0), .long wd, .int (nI we), .int nu, .int na, .int (nI rd), .ref (a 14), .ref (a 15), .ref (a 16), .int ts, .ref (a 18), .ref (a 19), .ref (a 20), .ref (a 21), .ref (a 22), .ref (a 23), .int (nI ru), .ref (a 25), .ref (a 26), .ref (a 27), .ref (a 28), .ref (a 29), .ref (a 30), .int (nI ig_4), .ref (a 32), .ref (a 33), .ref (a 34), .int (nI ig_5), .ref (a 36), .ref (a 37), .int df, .int db, .ref (a 40), .ref (a 41), .int (fimages (35 * nb_2 + 2)), .ref (a 43), .ref (a 44)])), ((a 43), .inl (k 2, 2, .inl fisKept)), ((a 44), .inl (k 1, 70, .inl fimages)), ((a 32), .inl (k 2, 24, .inl fr2_6)), ((a 36), .inl (k 1, 4, .inl f_10)), ((a 37), .inl (k 1, 4, .inl (upd (nF b2_8) (Int32.toNatClampNeg (nI kk_8)) (nI ig_11))))] H := hP
          replace hD : va_D A [((a 0), .inr (8, [.ref (a 1), .ref (a 2), .ref (a 3), .ref (a 4), .ref (a 5), .int (nI tx), .int fp, .int (nI t0), .long wd, .int (nI we), .int nu, .int na, .int (nI rd), .ref (a 14), .ref (a 15), .ref (a 16), .int ts, .ref (a 18), .ref (a 19), .ref (a 20), .ref (a 21), .ref (a 22), .ref (a 23), .int (nI ru), .ref (a 25), .ref (a 26), .ref (a 27), .ref (a 28), .ref (a 29), .ref (a 30), .int (nI ig_4), .ref (a 32), .ref (a 33), .ref (a 34), .int (nI ig_5), .ref (a 36), .ref (a 37), .int df, .int db, .ref (a 40), .ref (a 41), .int (fimages (35 * nb_2 + 2)), .ref (a 43), .ref (a 44)])), ((a 43), .inl (k 2, 2, .inl fisKept)), ((a 44), .inl (k 1, 70, .inl fimages)), ((a 32), .inl (k 2, 24, .inl fr2_6)), ((a 36), .inl (k 1, 4, .inl f_10)), ((a 37), .inl (k 1, 4, .inl (upd (nF b2_8) (Int32.toNatClampNeg (nI kk_8)) (nI ig_11))))] := hD
          rw [nI_clamp (n := kk_8) (by omega)] at hP hD
          rw [show upd (nF b2_8) kk_8 (nI ig_11) = nF (fun j => if j = kk_8 then ig_11 else b2_8 j) from nF_upd _ _ _] at hP hD
          obtain ⟨d_13, hd_13⟩ : ∃ z : Nat → Nat, z = (fun j => if j = kk_8 then ig_11 else b2_8 j) := ⟨_, rfl⟩
          rw [← hd_13] at hP hD
          have hbb_13 : ∀ j, d_13 j ≤ 24 := by rw [hd_13]; exact up_le hbl_8 (by omega)
          refine lv_iinc (v := (nI (kk_8 + 1))) (lv' := [(3, .int (nI (kk_8 + 1))), (2, .int (nI (35 * nb_2))), (0, .ref (a 0)), (1, .int (nI nb_2))]) hx hb dX8_goBack_146 hl (k := 0) rfl (nI_add kk_8 1) (by decide) rfl (fun ls hl => ?_)
          refine lv_goto (tgt := 107) hx hb dX8_goBack_149 (by decide) ?_
          exact ih_8 _ (kk_8 + 1, f_10, d_13) _ _ _ (by omega) ⟨rfl, ⟨by omega, hbb_13⟩, hP, hD, hS, (lv_sub hl [0, 1, 2, 3] rfl)⟩
      · have c_7 : ¬ (24 ≤ kk_6) := fun h => c_7 ((nI_leI (a := 24) (b := kk_6) (by omega) (by omega)).mpr h)
        refine lv_aload_n hx hb dX8_goBack_74 rfl (lv_at hl 2 rfl) ?_
        refine va_get (D := D) (ci := 8) (v := .ref (a 32)) (C := RX8) (T := TX8) (N := 44) hx hb hts inX8 hown hK hP 0 rfl rfl 31 (by decide) (hts _ tw_1004) (fun _ h9 => h9) rfl dX8_goBack_75 ?_
        refine lv_iload_n hx hb dX8_goBack_78 rfl (lv_at hl 0 rfl) ?_
        refine lv_aload_n hx hb dX8_goBack_79 rfl (lv_at hl 2 rfl) ?_
        refine va_get (D := D) (ci := 8) (v := .ref (a 44)) (C := RX8) (T := TX8) (N := 44) hx hb hts inX8 hown hK hP 0 rfl rfl 43 (by decide) (hts _ tw_1016) (fun _ h9 => h9) rfl dX8_goBack_80 ?_
        refine lv_iload_n hx hb dX8_goBack_83 rfl (lv_at hl 1 rfl) ?_
        refine lv_iconst (v := 3) hx hb dX8_goBack_84 (by decide) ?_
        refine lv_iadd hx hb dX8_goBack_85 ?_
        refine lv_ti (y := (nI (35 * nb_2 + 3))) (nI_add (35 * nb_2) 3) ?_
        refine lv_iload_n hx hb dX8_goBack_86 rfl (lv_at hl 0 rfl) ?_
        refine lv_iadd hx hb dX8_goBack_87 ?_
        refine lv_ti (y := (nI (35 * nb_2 + 3 + kk_6))) (nI_add (35 * nb_2 + 3) kk_6) ?_
        refine va_iald hx hb hK hP 2 1 rfl rfl (vp_in_nI (by omega) (by decide)) dX8_goBack_88 ?_
        refine lv_ti (y := (fimages (35 * nb_2 + 3 + kk_6))) (by rw [nI_clamp (by omega)]) ?_
        refine lv_iconst (v := 1) hx hb dX8_goBack_89 (by decide) ?_
        refine lv_icmp_ne (tgt := 97) hx hb dX8_goBack_90 (by decide) (fun c_14 => ?_) (fun c_14 => ?_)
        · refine lv_iconst (v := 0) hx hb dX8_goBack_97 (by decide) ?_
          refine va_zast hx hb hK hP hD hS 3 2 rfl rfl (vp_in_nI (by omega) (by decide)) dX8_goBack_98 (fun H locs hP hD hS => ?_)
          replace hP : va_P D classes [((a 0), .inr (8, [.ref (a 1), .ref (a 2), .ref (a 3), .ref (a 4), .ref (a 5), .int (nI tx), .int fp, .int (nI t0), .long wd, .int (nI we), .int nu, .int na, .int (nI rd), .ref (a 14), .ref (a 15), .ref (a 16), .int ts, .ref (a 18), .ref (a 19), .ref (a 20), .ref (a 21), .ref (a 22), .ref (a 23), .int (nI ru), .ref (a 25), .ref (a 26), .ref (a 27), .ref (a 28), .ref (a 29), .ref (a 30), .int (nI ig_4), .ref (a 32), .ref (a 33), .ref (a 34), .int (nI ig_5), .ref (a 36), .ref (a 37), .int df, .int db, .ref (a 40), .ref (a 41), .int (fimages (35 * nb_2 + 2)), .ref (a 43), .ref (a 44)])), ((a 43), .inl (k 2, 2, .inl fisKept)), ((a 44), .inl (k 1, 70, .inl fimages)), ((a 32), .inl (k 2, 24, .inl (upd fr2_6 (Int32.toNatClampNeg (nI kk_6)) (vp_nar .boolean 0)))), ((a 36), .inl (k 1, 4, .inl fwalks)), ((a 37), .inl (k 1, 4, .inl (nF br)))] H := hP
          replace hD : va_D A [((a 0), .inr (8, [.ref (a 1), .ref (a 2), .ref (a 3), .ref (a 4), .ref (a 5), .int (nI tx), .int fp, .int (nI t0), .long wd, .int (nI we), .int nu, .int na, .int (nI rd), .ref (a 14), .ref (a 15), .ref (a 16), .int ts, .ref (a 18), .ref (a 19), .ref (a 20), .ref (a 21), .ref (a 22), .ref (a 23), .int (nI ru), .ref (a 25), .ref (a 26), .ref (a 27), .ref (a 28), .ref (a 29), .ref (a 30), .int (nI ig_4), .ref (a 32), .ref (a 33), .ref (a 34), .int (nI ig_5), .ref (a 36), .ref (a 37), .int df, .int db, .ref (a 40), .ref (a 41), .int (fimages (35 * nb_2 + 2)), .ref (a 43), .ref (a 44)])), ((a 43), .inl (k 2, 2, .inl fisKept)), ((a 44), .inl (k 1, 70, .inl fimages)), ((a 32), .inl (k 2, 24, .inl (upd fr2_6 (Int32.toNatClampNeg (nI kk_6)) (vp_nar .boolean 0)))), ((a 36), .inl (k 1, 4, .inl fwalks)), ((a 37), .inl (k 1, 4, .inl (nF br)))] := hD
          generalize (upd fr2_6 (Int32.toNatClampNeg (nI kk_6)) (vp_nar .boolean 0)) = f_15 at hP hD
          refine lv_iinc (v := (nI (kk_6 + 1))) (lv' := [(3, .int (nI (kk_6 + 1))), (2, .int (nI (35 * nb_2))), (0, .ref (a 0)), (1, .int (nI nb_2))]) hx hb dX8_goBack_99 hl (k := 0) rfl (nI_add kk_6 1) (by decide) rfl (fun ls hl => ?_)
          refine lv_goto (tgt := 68) hx hb dX8_goBack_102 (by decide) ?_
          exact ih_6 _ (kk_6 + 1, f_15) _ _ _ (by omega) ⟨rfl, (by omega), hP, hD, hS, (lv_sub hl [0, 1, 2, 3] rfl)⟩
        · refine lv_iconst (v := 1) hx hb dX8_goBack_93 (by decide) ?_
          refine lv_goto (tgt := 98) hx hb dX8_goBack_94 (by decide) ?_
          refine va_zast hx hb hK hP hD hS 3 2 rfl rfl (vp_in_nI (by omega) (by decide)) dX8_goBack_98 (fun H locs hP hD hS => ?_)
          replace hP : va_P D classes [((a 0), .inr (8, [.ref (a 1), .ref (a 2), .ref (a 3), .ref (a 4), .ref (a 5), .int (nI tx), .int fp, .int (nI t0), .long wd, .int (nI we), .int nu, .int na, .int (nI rd), .ref (a 14), .ref (a 15), .ref (a 16), .int ts, .ref (a 18), .ref (a 19), .ref (a 20), .ref (a 21), .ref (a 22), .ref (a 23), .int (nI ru), .ref (a 25), .ref (a 26), .ref (a 27), .ref (a 28), .ref (a 29), .ref (a 30), .int (nI ig_4), .ref (a 32), .ref (a 33), .ref (a 34), .int (nI ig_5), .ref (a 36), .ref (a 37), .int df, .int db, .ref (a 40), .ref (a 41), .int (fimages (35 * nb_2 + 2)), .ref (a 43), .ref (a 44)])), ((a 43), .inl (k 2, 2, .inl fisKept)), ((a 44), .inl (k 1, 70, .inl fimages)), ((a 32), .inl (k 2, 24, .inl (upd fr2_6 (Int32.toNatClampNeg (nI kk_6)) (vp_nar .boolean 1)))), ((a 36), .inl (k 1, 4, .inl fwalks)), ((a 37), .inl (k 1, 4, .inl (nF br)))] H := hP
          replace hD : va_D A [((a 0), .inr (8, [.ref (a 1), .ref (a 2), .ref (a 3), .ref (a 4), .ref (a 5), .int (nI tx), .int fp, .int (nI t0), .long wd, .int (nI we), .int nu, .int na, .int (nI rd), .ref (a 14), .ref (a 15), .ref (a 16), .int ts, .ref (a 18), .ref (a 19), .ref (a 20), .ref (a 21), .ref (a 22), .ref (a 23), .int (nI ru), .ref (a 25), .ref (a 26), .ref (a 27), .ref (a 28), .ref (a 29), .ref (a 30), .int (nI ig_4), .ref (a 32), .ref (a 33), .ref (a 34), .int (nI ig_5), .ref (a 36), .ref (a 37), .int df, .int db, .ref (a 40), .ref (a 41), .int (fimages (35 * nb_2 + 2)), .ref (a 43), .ref (a 44)])), ((a 43), .inl (k 2, 2, .inl fisKept)), ((a 44), .inl (k 1, 70, .inl fimages)), ((a 32), .inl (k 2, 24, .inl (upd fr2_6 (Int32.toNatClampNeg (nI kk_6)) (vp_nar .boolean 1)))), ((a 36), .inl (k 1, 4, .inl fwalks)), ((a 37), .inl (k 1, 4, .inl (nF br)))] := hD
          generalize (upd fr2_6 (Int32.toNatClampNeg (nI kk_6)) (vp_nar .boolean 1)) = f_16 at hP hD
          refine lv_iinc (v := (nI (kk_6 + 1))) (lv' := [(3, .int (nI (kk_6 + 1))), (2, .int (nI (35 * nb_2))), (0, .ref (a 0)), (1, .int (nI nb_2))]) hx hb dX8_goBack_99 hl (k := 0) rfl (nI_add kk_6 1) (by decide) rfl (fun ls hl => ?_)
          refine lv_goto (tgt := 68) hx hb dX8_goBack_102 (by decide) ?_
          exact ih_6 _ (kk_6 + 1, f_16) _ _ _ (by omega) ⟨rfl, (by omega), hP, hD, hS, (lv_sub hl [0, 1, 2, 3] rfl)⟩
    · refine lv_sipush (v := (-1003)) hx hb dX8_goBack_23 (by decide) ?_
      have hP9 := hP.sub (ws' := [((a 0), .inr (8, [.ref (a 1), .ref (a 2), .ref (a 3), .ref (a 4), .ref (a 5), .int (nI tx), .int fp, .int (nI t0), .long wd, .int (nI we), .int nu, .int na, .int (nI rd), .ref (a 14), .ref (a 15), .ref (a 16), .int ts, .ref (a 18), .ref (a 19), .ref (a 20), .ref (a 21), .ref (a 22), .ref (a 23), .int (nI ru), .ref (a 25), .ref (a 26), .ref (a 27), .ref (a 28), .ref (a 29), .ref (a 30), .int (nI rw), .ref (a 32), .ref (a 33), .ref (a 34), .int (nI ca), .ref (a 36), .ref (a 37), .int df, .int db, .ref (a 40), .ref (a 41), .int sd, .ref (a 43), .ref (a 44)])), ((a 43), .inl (k 2, 2, .inl fisKept)), ((a 44), .inl (k 1, 70, .inl fimages)), ((a 32), .inl (k 2, 24, .inl frow)), ((a 36), .inl (k 1, 4, .inl fwalks)), ((a 37), .inl (k 1, 4, .inl (nF br)))]) [0, 1, 2, 3, 4, 5] rfl
      have hD9 := hD.sub (ws' := [((a 0), .inr (8, [.ref (a 1), .ref (a 2), .ref (a 3), .ref (a 4), .ref (a 5), .int (nI tx), .int fp, .int (nI t0), .long wd, .int (nI we), .int nu, .int na, .int (nI rd), .ref (a 14), .ref (a 15), .ref (a 16), .int ts, .ref (a 18), .ref (a 19), .ref (a 20), .ref (a 21), .ref (a 22), .ref (a 23), .int (nI ru), .ref (a 25), .ref (a 26), .ref (a 27), .ref (a 28), .ref (a 29), .ref (a 30), .int (nI rw), .ref (a 32), .ref (a 33), .ref (a 34), .int (nI ca), .ref (a 36), .ref (a 37), .int df, .int db, .ref (a 40), .ref (a 41), .int sd, .ref (a 43), .ref (a 44)])), ((a 43), .inl (k 2, 2, .inl fisKept)), ((a 44), .inl (k 1, 70, .inl fimages)), ((a 32), .inl (k 2, 24, .inl frow)), ((a 36), .inl (k 1, 4, .inl fwalks)), ((a 37), .inl (k 1, 4, .inl (nF br)))]) [0, 1, 2, 3, 4, 5] (by decide) rfl
      exact W.iret (v := (-1003)) hx hb hr (fun t ht hW => ⟨⟨(-1003), (rw, ca, sd, frow, fwalks, br), rfl, ⟨by omega, by omega, hbr⟩, by rw [ht]; exact hP9, hD9⟩, hS.F ht⟩) hS.2.2 dX8_goBack_26
  · refine lv_if_ne (tgt := 14) hx hb dX8_goBack_7 (by decide) (fun h => absurd (by decide) h) (fun _ => ?_)
    refine lv_sipush (v := (-1001)) hx hb dX8_goBack_10 (by decide) ?_
    have hP9 := hP.sub (ws' := [((a 0), .inr (8, [.ref (a 1), .ref (a 2), .ref (a 3), .ref (a 4), .ref (a 5), .int (nI tx), .int fp, .int (nI t0), .long wd, .int (nI we), .int nu, .int na, .int (nI rd), .ref (a 14), .ref (a 15), .ref (a 16), .int ts, .ref (a 18), .ref (a 19), .ref (a 20), .ref (a 21), .ref (a 22), .ref (a 23), .int (nI ru), .ref (a 25), .ref (a 26), .ref (a 27), .ref (a 28), .ref (a 29), .ref (a 30), .int (nI rw), .ref (a 32), .ref (a 33), .ref (a 34), .int (nI ca), .ref (a 36), .ref (a 37), .int df, .int db, .ref (a 40), .ref (a 41), .int sd, .ref (a 43), .ref (a 44)])), ((a 43), .inl (k 2, 2, .inl fisKept)), ((a 44), .inl (k 1, 70, .inl fimages)), ((a 32), .inl (k 2, 24, .inl frow)), ((a 36), .inl (k 1, 4, .inl fwalks)), ((a 37), .inl (k 1, 4, .inl (nF br)))]) [0, 1, 2, 3, 4, 5] rfl
    have hD9 := hD.sub (ws' := [((a 0), .inr (8, [.ref (a 1), .ref (a 2), .ref (a 3), .ref (a 4), .ref (a 5), .int (nI tx), .int fp, .int (nI t0), .long wd, .int (nI we), .int nu, .int na, .int (nI rd), .ref (a 14), .ref (a 15), .ref (a 16), .int ts, .ref (a 18), .ref (a 19), .ref (a 20), .ref (a 21), .ref (a 22), .ref (a 23), .int (nI ru), .ref (a 25), .ref (a 26), .ref (a 27), .ref (a 28), .ref (a 29), .ref (a 30), .int (nI rw), .ref (a 32), .ref (a 33), .ref (a 34), .int (nI ca), .ref (a 36), .ref (a 37), .int df, .int db, .ref (a 40), .ref (a 41), .int sd, .ref (a 43), .ref (a 44)])), ((a 43), .inl (k 2, 2, .inl fisKept)), ((a 44), .inl (k 1, 70, .inl fimages)), ((a 32), .inl (k 2, 24, .inl frow)), ((a 36), .inl (k 1, 4, .inl fwalks)), ((a 37), .inl (k 1, 4, .inl (nF br)))]) [0, 1, 2, 3, 4, 5] (by decide) rfl
    exact W.iret (v := (-1001)) hx hb hr (fun t ht hW => ⟨⟨(-1001), (rw, ca, sd, frow, fwalks, br), rfl, ⟨by omega, by omega, hbr⟩, by rw [ht]; exact hP9, hD9⟩, hS.F ht⟩) hS.2.2 dX8_goBack_13


theorem dX8_chanceOf_0 : decode cX8_chanceOf 0 = .ok (.aload_n 0, 1) := by decide +kernel
theorem dX8_chanceOf_1 : decode cX8_chanceOf 1 = .ok (.getfield 13, 3) := by decide +kernel
theorem dX8_chanceOf_4 : decode cX8_chanceOf 4 = .ok (.bipush 24, 2) := by decide +kernel
theorem dX8_chanceOf_6 : decode cX8_chanceOf 6 = .ok (.iload_n 1, 1) := by decide +kernel
theorem dX8_chanceOf_7 : decode cX8_chanceOf 7 = .ok (.imul, 1) := by decide +kernel
theorem dX8_chanceOf_8 : decode cX8_chanceOf 8 = .ok (.iload_n 2, 1) := by decide +kernel
theorem dX8_chanceOf_9 : decode cX8_chanceOf 9 = .ok (.iadd, 1) := by decide +kernel
theorem dX8_chanceOf_10 : decode cX8_chanceOf 10 = .ok (.iaload, 1) := by decide +kernel
theorem dX8_chanceOf_11 : decode cX8_chanceOf 11 = .ok (.istore 4, 2) := by decide +kernel
theorem dX8_chanceOf_13 : decode cX8_chanceOf 13 = .ok (.iload_n 2, 1) := by decide +kernel
theorem dX8_chanceOf_14 : decode cX8_chanceOf 14 = .ok (.ifCond .ne 8, 3) := by decide +kernel
theorem dX8_chanceOf_17 : decode cX8_chanceOf 17 = .ok (.iload 4, 2) := by decide +kernel
theorem dX8_chanceOf_19 : decode cX8_chanceOf 19 = .ok (.goto 28, 3) := by decide +kernel
theorem dX8_chanceOf_22 : decode cX8_chanceOf 22 = .ok (.iload_n 3, 1) := by decide +kernel
theorem dX8_chanceOf_23 : decode cX8_chanceOf 23 = .ok (.ifCond .eq 15, 3) := by decide +kernel
theorem dX8_chanceOf_26 : decode cX8_chanceOf 26 = .ok (.iload 4, 2) := by decide +kernel
theorem dX8_chanceOf_28 : decode cX8_chanceOf 28 = .ok (.aload_n 0, 1) := by decide +kernel
theorem dX8_chanceOf_29 : decode cX8_chanceOf 29 = .ok (.iload_n 1, 1) := by decide +kernel
theorem dX8_chanceOf_30 : decode cX8_chanceOf 30 = .ok (.iconst 0, 1) := by decide +kernel
theorem dX8_chanceOf_31 : decode cX8_chanceOf 31 = .ok (.invokevirtual 212, 3) := by decide +kernel
theorem dX8_chanceOf_34 : decode cX8_chanceOf 34 = .ok (.iadd, 1) := by decide +kernel
theorem dX8_chanceOf_35 : decode cX8_chanceOf 35 = .ok (.goto 12, 3) := by decide +kernel
theorem dX8_chanceOf_38 : decode cX8_chanceOf 38 = .ok (.iload 4, 2) := by decide +kernel
theorem dX8_chanceOf_40 : decode cX8_chanceOf 40 = .ok (.aload_n 0, 1) := by decide +kernel
theorem dX8_chanceOf_41 : decode cX8_chanceOf 41 = .ok (.iload_n 1, 1) := by decide +kernel
theorem dX8_chanceOf_42 : decode cX8_chanceOf 42 = .ok (.iconst 0, 1) := by decide +kernel
theorem dX8_chanceOf_43 : decode cX8_chanceOf 43 = .ok (.invokevirtual 212, 3) := by decide +kernel
theorem dX8_chanceOf_46 : decode cX8_chanceOf 46 = .ok (.isub, 1) := by decide +kernel
theorem dX8_chanceOf_47 : decode cX8_chanceOf 47 = .ok (.istore 5, 2) := by decide +kernel
theorem dX8_chanceOf_49 : decode cX8_chanceOf 49 = .ok (.iload 5, 2) := by decide +kernel
theorem dX8_chanceOf_51 : decode cX8_chanceOf 51 = .ok (.ifCond .ge 7, 3) := by decide +kernel
theorem dX8_chanceOf_54 : decode cX8_chanceOf 54 = .ok (.iconst 0, 1) := by decide +kernel
theorem dX8_chanceOf_55 : decode cX8_chanceOf 55 = .ok (.goto 17, 3) := by decide +kernel
theorem dX8_chanceOf_58 : decode cX8_chanceOf 58 = .ok (.iload 5, 2) := by decide +kernel
theorem dX8_chanceOf_60 : decode cX8_chanceOf 60 = .ok (.bipush 100, 2) := by decide +kernel
theorem dX8_chanceOf_62 : decode cX8_chanceOf 62 = .ok (.if_icmp .le 8, 3) := by decide +kernel
theorem dX8_chanceOf_65 : decode cX8_chanceOf 65 = .ok (.bipush 100, 2) := by decide +kernel
theorem dX8_chanceOf_67 : decode cX8_chanceOf 67 = .ok (.goto 5, 3) := by decide +kernel
theorem dX8_chanceOf_70 : decode cX8_chanceOf 70 = .ok (.iload 5, 2) := by decide +kernel
theorem dX8_chanceOf_72 : decode cX8_chanceOf 72 = .ok (.ireturn, 1) := by decide +kernel
set_option maxHeartbeats 4000000 in
set_option maxRecDepth 100000 in
theorem m_chanceOf (l : Launch) (D : va_G) (k : Nat → ClassId) (st : Nat → Nat) (lo : Nat) (a : Nat → Nat) (tx : Nat) (t0 : Nat) (we : Nat) (rd : Nat) (ru : Nat) (rw : Nat) (ca : Nat) (fp : Int32) (wd : Int64) (nu : Int32) (na : Int32) (ts : Int32) (df : Int32) (db : Int32) (sd : Int32) (ffrees : Nat → Int32) (se : Nat → Nat) (tm : Nat → Nat) (gs : Nat → Int32) (sn : Nat) (i : Nat) (pz : Int32)  (hs : sn < 3) (hi : i < 24) : CRi l D k st lo yX8_chanceOf cX8_chanceOf 6 (some .int) ({ frames := 1, cells := 0, slots := 0, locals := 22 }) [.ref (a 0), .int (nI sn), .int (nI i), .int pz] [((a 0), .inr (8, [.ref (a 1), .ref (a 2), .ref (a 3), .ref (a 4), .ref (a 5), .int (nI tx), .int fp, .int (nI t0), .long wd, .int (nI we), .int nu, .int na, .int (nI rd), .ref (a 14), .ref (a 15), .ref (a 16), .int ts, .ref (a 18), .ref (a 19), .ref (a 20), .ref (a 21), .ref (a 22), .ref (a 23), .int (nI ru), .ref (a 25), .ref (a 26), .ref (a 27), .ref (a 28), .ref (a 29), .ref (a 30), .int (nI rw), .ref (a 32), .ref (a 33), .ref (a 34), .int (nI ca), .ref (a 36), .ref (a 37), .int df, .int db, .ref (a 40), .ref (a 41), .int sd, .ref (a 43), .ref (a 44)])), ((a 2), .inl (k 1, 72, .inl ffrees)), ((a 4), .inl (k 1, 27, .inl (sg se tm gs)))] (fun r => True) := by
  intro sz
  refine Met.ofW (cc := cX8_chanceOf) (maxL := 6) (ret := (some .int)) (by decide) rfl ?_
  intro p e s m args below meth c s₁ B hml hv
  obtain ⟨rfl, hsz, hlo, hP, hK, hDL, hZ⟩ := hv
  have hx := B.exec
  have hb := B.bytes
  have hr := B.returns
  have hts := WS_ts B.pre
  have hown : s.vm.findClass RX8 = some m.cls := findClass_of_methodNamed B.named
  have hlocks := B.notSynchronized
  subst hsz
  have hA : ∀ q : Nat, s.heap.size ≤ q → (fun q : Nat => s.heap.size ≤ q) q := fun _ h => h
  have hAlo : ∀ q : Nat, (fun q : Nat => s.heap.size ≤ q) q → lo ≤ q := fun q h => Nat.le_trans hlo h
  have hS : va_S (fun q : Nat => s.heap.size ≤ q) s.heap s.heap [] := va_S.rf
  have hl := lv_entry ([.ref (a 0), .int (nI sn), .int (nI i), .int pz]) (n := 6) (Nat.le_of_ble_eq_true rfl)
  rw [lg_entry_eq]
  generalize (lg_sl ([.ref (a 0), .int (nI sn), .int (nI i), .int pz]) ++ List.replicate (6 - (lg_sl ([.ref (a 0), .int (nI sn), .int (nI i), .int pz])).length) Slot.unset).toArray = ls at hl ⊢
  have hl : lv_has ls 6 [(0, .ref (a 0)), (1, .int (nI sn)), (2, .int (nI i)), (3, .int pz)] := hl
  refine lv_aload_n hx hb dX8_chanceOf_0 rfl (lv_at hl 0 rfl) ?_
  refine va_get (D := D) (ci := 8) (v := .ref (a 2)) (C := RX8) (T := TX8) (N := 44) hx hb hts inX8 hown hK hP 0 rfl rfl 1 (by decide) (hts _ tw_974) (fun _ h9 => h9) rfl dX8_chanceOf_1 ?_
  refine lv_bipush (v := 24) hx hb dX8_chanceOf_4 (by decide) ?_
  refine lv_iload_n hx hb dX8_chanceOf_6 rfl (lv_at hl 1 rfl) ?_
  refine lv_imul hx hb dX8_chanceOf_7 ?_
  refine lv_ti (y := (nI (24 * sn))) (pk_mul 24 sn) ?_
  refine lv_iload_n hx hb dX8_chanceOf_8 rfl (lv_at hl 2 rfl) ?_
  refine lv_iadd hx hb dX8_chanceOf_9 ?_
  refine lv_ti (y := (nI (24 * sn + i))) (nI_add (24 * sn) i) ?_
  refine va_iald hx hb hK hP 1 1 rfl rfl (vp_in_nI (by omega) (by decide)) dX8_chanceOf_10 ?_
  refine lv_ti (y := (ffrees (24 * sn + i))) (by rw [nI_clamp (by omega)]) ?_
  refine lv_istore (lv' := [(4, .int (ffrees (24 * sn + i))), (0, .ref (a 0)), (1, .int (nI sn)), (2, .int (nI i)), (3, .int pz)]) hx hb dX8_chanceOf_11 hl (by decide) rfl (fun ls hl => ?_)
  refine lv_iload_n hx hb dX8_chanceOf_13 rfl (lv_at hl 3 rfl) ?_
  refine lv_if_ne (tgt := 22) hx hb dX8_chanceOf_14 (by decide) (fun c_1 => ?_) (fun c_1 => ?_)
  · have c_1 : ¬ (i = 0) := fun h => c_1 ((nI_eq (a := i) (b := 0) (by omega) (by omega)).mpr h)
    refine lv_iload_n hx hb dX8_chanceOf_22 rfl (lv_at hl 4 rfl) ?_
    refine lv_if_eq (tgt := 38) hx hb dX8_chanceOf_23 (by decide) (fun c_2 => ?_) (fun c_2 => ?_)
    · refine lv_iload hx hb dX8_chanceOf_38 (lv_at hl 0 rfl) ?_
      refine lv_aload_n hx hb dX8_chanceOf_40 rfl (lv_at hl 1 rfl) ?_
      refine lv_iload_n hx hb dX8_chanceOf_41 rfl (lv_at hl 2 rfl) ?_
      refine lv_iconst (v := 0) hx hb dX8_chanceOf_42 (by decide) ?_
      refine ro_i (D := D) (va_runV (As := [.int (nI sn), .int 0]) (rest := [.int (ffrees (24 * sn + i))]) ⟨hx, hb, hml, hown, hts⟩ ((m_of l D k st lo a tx t0 we rd ru rw ca fp wd nu na ts df db sd se tm gs sn 0 (by omega) (by omega)) s.heap.size) (cwV 2 hts (gV tw_1194 tw_1196 tw_39 tw_87 tw_1197) rfl rfl rfl (by decide +kernel) ⟨Nat.le_of_ble_eq_true rfl, Nat.le_of_ble_eq_true rfl⟩) (pV hS hAlo hlo hP hK hDL hZ [0, 2] (by decide) rfl (ci := 8) (q0 := 0) rfl rfl) rfl rfl hl.1 rfl (lv_room (Nat.le_of_ble_eq_true rfl)) dX8_chanceOf_43 ⟨Nat.le_of_ble_eq_true rfl, Nat.le_of_ble_eq_true rfl⟩) hS hA hP (fun r_3 H locs hw_3 hP hS => ?_)
      try dsimp only at hw_3
      refine lv_isub hx hb dX8_chanceOf_46 ?_
      refine lv_topi (fun x_4 ex_4 => ?_)
      refine lv_istore (lv' := [(5, .int x_4), (4, .int (ffrees (24 * sn + i))), (0, .ref (a 0)), (1, .int (nI sn)), (2, .int (nI i)), (3, .int pz)]) hx hb dX8_chanceOf_47 hl (by decide) rfl (fun ls hl => ?_)
      refine lv_iload hx hb dX8_chanceOf_49 (lv_at hl 0 rfl) ?_
      refine lv_if_ge (tgt := 58) hx hb dX8_chanceOf_51 (by decide) (fun c_5 => ?_) (fun c_5 => ?_)
      · refine lv_iload hx hb dX8_chanceOf_58 (lv_at hl 0 rfl) ?_
        refine lv_bipush (v := 100) hx hb dX8_chanceOf_60 (by decide) ?_
        refine lv_icmp_le (tgt := 70) hx hb dX8_chanceOf_62 (by decide) (fun c_6 => ?_) (fun c_6 => ?_)
        · refine lv_iload hx hb dX8_chanceOf_70 (lv_at hl 0 rfl) ?_
          exact W.iret (v := x_4) hx hb hr (fun t ht hW => ⟨⟨x_4, (), rfl, trivial, trivial⟩, hS.F ht⟩) hS.2.2 dX8_chanceOf_72
        · refine lv_bipush (v := 100) hx hb dX8_chanceOf_65 (by decide) ?_
          refine lv_goto (tgt := 72) hx hb dX8_chanceOf_67 (by decide) ?_
          exact W.iret (v := 100) hx hb hr (fun t ht hW => ⟨⟨100, (), rfl, trivial, trivial⟩, hS.F ht⟩) hS.2.2 dX8_chanceOf_72
      · refine lv_iconst (v := 0) hx hb dX8_chanceOf_54 (by decide) ?_
        refine lv_goto (tgt := 72) hx hb dX8_chanceOf_55 (by decide) ?_
        exact W.iret (v := 0) hx hb hr (fun t ht hW => ⟨⟨0, (), rfl, trivial, trivial⟩, hS.F ht⟩) hS.2.2 dX8_chanceOf_72
    · refine lv_iload hx hb dX8_chanceOf_26 (lv_at hl 0 rfl) ?_
      refine lv_aload_n hx hb dX8_chanceOf_28 rfl (lv_at hl 1 rfl) ?_
      refine lv_iload_n hx hb dX8_chanceOf_29 rfl (lv_at hl 2 rfl) ?_
      refine lv_iconst (v := 0) hx hb dX8_chanceOf_30 (by decide) ?_
      refine ro_i (D := D) (va_runV (As := [.int (nI sn), .int 0]) (rest := [.int (ffrees (24 * sn + i))]) ⟨hx, hb, hml, hown, hts⟩ ((m_of l D k st lo a tx t0 we rd ru rw ca fp wd nu na ts df db sd se tm gs sn 0 (by omega) (by omega)) s.heap.size) (cwV 2 hts (gV tw_1194 tw_1196 tw_39 tw_87 tw_1197) rfl rfl rfl (by decide +kernel) ⟨Nat.le_of_ble_eq_true rfl, Nat.le_of_ble_eq_true rfl⟩) (pV hS hAlo hlo hP hK hDL hZ [0, 2] (by decide) rfl (ci := 8) (q0 := 0) rfl rfl) rfl rfl hl.1 rfl (lv_room (Nat.le_of_ble_eq_true rfl)) dX8_chanceOf_31 ⟨Nat.le_of_ble_eq_true rfl, Nat.le_of_ble_eq_true rfl⟩) hS hA hP (fun r_7 H locs hw_7 hP hS => ?_)
      try dsimp only at hw_7
      refine lv_iadd hx hb dX8_chanceOf_34 ?_
      refine lv_topi (fun x_8 ex_8 => ?_)
      refine lv_goto (tgt := 47) hx hb dX8_chanceOf_35 (by decide) ?_
      refine lv_istore (lv' := [(5, .int x_8), (4, .int (ffrees (24 * sn + i))), (0, .ref (a 0)), (1, .int (nI sn)), (2, .int (nI i)), (3, .int pz)]) hx hb dX8_chanceOf_47 hl (by decide) rfl (fun ls hl => ?_)
      refine lv_iload hx hb dX8_chanceOf_49 (lv_at hl 0 rfl) ?_
      refine lv_if_ge (tgt := 58) hx hb dX8_chanceOf_51 (by decide) (fun c_9 => ?_) (fun c_9 => ?_)
      · refine lv_iload hx hb dX8_chanceOf_58 (lv_at hl 0 rfl) ?_
        refine lv_bipush (v := 100) hx hb dX8_chanceOf_60 (by decide) ?_
        refine lv_icmp_le (tgt := 70) hx hb dX8_chanceOf_62 (by decide) (fun c_10 => ?_) (fun c_10 => ?_)
        · refine lv_iload hx hb dX8_chanceOf_70 (lv_at hl 0 rfl) ?_
          exact W.iret (v := x_8) hx hb hr (fun t ht hW => ⟨⟨x_8, (), rfl, trivial, trivial⟩, hS.F ht⟩) hS.2.2 dX8_chanceOf_72
        · refine lv_bipush (v := 100) hx hb dX8_chanceOf_65 (by decide) ?_
          refine lv_goto (tgt := 72) hx hb dX8_chanceOf_67 (by decide) ?_
          exact W.iret (v := 100) hx hb hr (fun t ht hW => ⟨⟨100, (), rfl, trivial, trivial⟩, hS.F ht⟩) hS.2.2 dX8_chanceOf_72
      · refine lv_iconst (v := 0) hx hb dX8_chanceOf_54 (by decide) ?_
        refine lv_goto (tgt := 72) hx hb dX8_chanceOf_55 (by decide) ?_
        exact W.iret (v := 0) hx hb hr (fun t ht hW => ⟨⟨0, (), rfl, trivial, trivial⟩, hS.F ht⟩) hS.2.2 dX8_chanceOf_72
  · have c_1 := (nI_eq (a := i) (b := 0) (by omega) (by omega)).mp c_1
    refine lv_iload hx hb dX8_chanceOf_17 (lv_at hl 0 rfl) ?_
    refine lv_goto (tgt := 47) hx hb dX8_chanceOf_19 (by decide) ?_
    refine lv_istore (lv' := [(5, .int (ffrees (24 * sn + i))), (4, .int (ffrees (24 * sn + i))), (0, .ref (a 0)), (1, .int (nI sn)), (2, .int (nI i)), (3, .int pz)]) hx hb dX8_chanceOf_47 hl (by decide) rfl (fun ls hl => ?_)
    refine lv_iload hx hb dX8_chanceOf_49 (lv_at hl 0 rfl) ?_
    refine lv_if_ge (tgt := 58) hx hb dX8_chanceOf_51 (by decide) (fun c_11 => ?_) (fun c_11 => ?_)
    · refine lv_iload hx hb dX8_chanceOf_58 (lv_at hl 0 rfl) ?_
      refine lv_bipush (v := 100) hx hb dX8_chanceOf_60 (by decide) ?_
      refine lv_icmp_le (tgt := 70) hx hb dX8_chanceOf_62 (by decide) (fun c_12 => ?_) (fun c_12 => ?_)
      · refine lv_iload hx hb dX8_chanceOf_70 (lv_at hl 0 rfl) ?_
        exact W.iret (v := (ffrees (24 * sn + i))) hx hb hr (fun t ht hW => ⟨⟨(ffrees (24 * sn + i)), (), rfl, trivial, trivial⟩, hS.F ht⟩) hS.2.2 dX8_chanceOf_72
      · refine lv_bipush (v := 100) hx hb dX8_chanceOf_65 (by decide) ?_
        refine lv_goto (tgt := 72) hx hb dX8_chanceOf_67 (by decide) ?_
        exact W.iret (v := 100) hx hb hr (fun t ht hW => ⟨⟨100, (), rfl, trivial, trivial⟩, hS.F ht⟩) hS.2.2 dX8_chanceOf_72
    · refine lv_iconst (v := 0) hx hb dX8_chanceOf_54 (by decide) ?_
      refine lv_goto (tgt := 72) hx hb dX8_chanceOf_55 (by decide) ?_
      exact W.iret (v := 0) hx hb hr (fun t ht hW => ⟨⟨0, (), rfl, trivial, trivial⟩, hS.F ht⟩) hS.2.2 dX8_chanceOf_72


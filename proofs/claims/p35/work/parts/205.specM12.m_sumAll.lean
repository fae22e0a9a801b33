theorem dX8_sumAll_0 : decode cX8_sumAll 0 = .ok (.aload_n 0, 1) := by decide +kernel
theorem dX8_sumAll_1 : decode cX8_sumAll 1 = .ok (.getfield 315, 3) := by decide +kernel
theorem dX8_sumAll_4 : decode cX8_sumAll 4 = .ok (.ifCond .le 13, 3) := by decide +kernel
theorem dX8_sumAll_7 : decode cX8_sumAll 7 = .ok (.aload_n 0, 1) := by decide +kernel
theorem dX8_sumAll_8 : decode cX8_sumAll 8 = .ok (.iload_n 1, 1) := by decide +kernel
theorem dX8_sumAll_9 : decode cX8_sumAll 9 = .ok (.iconst 0, 1) := by decide +kernel
theorem dX8_sumAll_10 : decode cX8_sumAll 10 = .ok (.iload_n 2, 1) := by decide +kernel
theorem dX8_sumAll_11 : decode cX8_sumAll 11 = .ok (.invokevirtual 330, 3) := by decide +kernel
theorem dX8_sumAll_14 : decode cX8_sumAll 14 = .ok (.goto 4, 3) := by decide +kernel
theorem dX8_sumAll_17 : decode cX8_sumAll 17 = .ok (.iconst 0, 1) := by decide +kernel
theorem dX8_sumAll_18 : decode cX8_sumAll 18 = .ok (.istore 6, 2) := by decide +kernel
theorem dX8_sumAll_20 : decode cX8_sumAll 20 = .ok (.iload 6, 2) := by decide +kernel
theorem dX8_sumAll_22 : decode cX8_sumAll 22 = .ok (.aload_n 0, 1) := by decide +kernel
theorem dX8_sumAll_23 : decode cX8_sumAll 23 = .ok (.getfield 315, 3) := by decide +kernel
theorem dX8_sumAll_26 : decode cX8_sumAll 26 = .ok (.iconst 1, 1) := by decide +kernel
theorem dX8_sumAll_27 : decode cX8_sumAll 27 = .ok (.if_icmp .le 13, 3) := by decide +kernel
theorem dX8_sumAll_30 : decode cX8_sumAll 30 = .ok (.aload_n 0, 1) := by decide +kernel
theorem dX8_sumAll_31 : decode cX8_sumAll 31 = .ok (.iload_n 1, 1) := by decide +kernel
theorem dX8_sumAll_32 : decode cX8_sumAll 32 = .ok (.iconst 1, 1) := by decide +kernel
theorem dX8_sumAll_33 : decode cX8_sumAll 33 = .ok (.iload_n 3, 1) := by decide +kernel
theorem dX8_sumAll_34 : decode cX8_sumAll 34 = .ok (.invokevirtual 330, 3) := by decide +kernel
theorem dX8_sumAll_37 : decode cX8_sumAll 37 = .ok (.goto 4, 3) := by decide +kernel
theorem dX8_sumAll_40 : decode cX8_sumAll 40 = .ok (.iconst 0, 1) := by decide +kernel
theorem dX8_sumAll_41 : decode cX8_sumAll 41 = .ok (.iadd, 1) := by decide +kernel
theorem dX8_sumAll_42 : decode cX8_sumAll 42 = .ok (.istore 6, 2) := by decide +kernel
theorem dX8_sumAll_44 : decode cX8_sumAll 44 = .ok (.iload 6, 2) := by decide +kernel
theorem dX8_sumAll_46 : decode cX8_sumAll 46 = .ok (.aload_n 0, 1) := by decide +kernel
theorem dX8_sumAll_47 : decode cX8_sumAll 47 = .ok (.getfield 315, 3) := by decide +kernel
theorem dX8_sumAll_50 : decode cX8_sumAll 50 = .ok (.iconst 2, 1) := by decide +kernel
theorem dX8_sumAll_51 : decode cX8_sumAll 51 = .ok (.if_icmp .le 14, 3) := by decide +kernel
theorem dX8_sumAll_54 : decode cX8_sumAll 54 = .ok (.aload_n 0, 1) := by decide +kernel
theorem dX8_sumAll_55 : decode cX8_sumAll 55 = .ok (.iload_n 1, 1) := by decide +kernel
theorem dX8_sumAll_56 : decode cX8_sumAll 56 = .ok (.iconst 2, 1) := by decide +kernel
theorem dX8_sumAll_57 : decode cX8_sumAll 57 = .ok (.iload 4, 2) := by decide +kernel
theorem dX8_sumAll_59 : decode cX8_sumAll 59 = .ok (.invokevirtual 330, 3) := by decide +kernel
theorem dX8_sumAll_62 : decode cX8_sumAll 62 = .ok (.goto 4, 3) := by decide +kernel
theorem dX8_sumAll_65 : decode cX8_sumAll 65 = .ok (.iconst 0, 1) := by decide +kernel
theorem dX8_sumAll_66 : decode cX8_sumAll 66 = .ok (.iadd, 1) := by decide +kernel
theorem dX8_sumAll_67 : decode cX8_sumAll 67 = .ok (.istore 6, 2) := by decide +kernel
theorem dX8_sumAll_69 : decode cX8_sumAll 69 = .ok (.iload 6, 2) := by decide +kernel
theorem dX8_sumAll_71 : decode cX8_sumAll 71 = .ok (.aload_n 0, 1) := by decide +kernel
theorem dX8_sumAll_72 : decode cX8_sumAll 72 = .ok (.getfield 315, 3) := by decide +kernel
theorem dX8_sumAll_75 : decode cX8_sumAll 75 = .ok (.iconst 3, 1) := by decide +kernel
theorem dX8_sumAll_76 : decode cX8_sumAll 76 = .ok (.if_icmp .le 14, 3) := by decide +kernel
theorem dX8_sumAll_79 : decode cX8_sumAll 79 = .ok (.aload_n 0, 1) := by decide +kernel
theorem dX8_sumAll_80 : decode cX8_sumAll 80 = .ok (.iload_n 1, 1) := by decide +kernel
theorem dX8_sumAll_81 : decode cX8_sumAll 81 = .ok (.iconst 3, 1) := by decide +kernel
theorem dX8_sumAll_82 : decode cX8_sumAll 82 = .ok (.iload 5, 2) := by decide +kernel
theorem dX8_sumAll_84 : decode cX8_sumAll 84 = .ok (.invokevirtual 330, 3) := by decide +kernel
theorem dX8_sumAll_87 : decode cX8_sumAll 87 = .ok (.goto 4, 3) := by decide +kernel
theorem dX8_sumAll_90 : decode cX8_sumAll 90 = .ok (.iconst 0, 1) := by decide +kernel
theorem dX8_sumAll_91 : decode cX8_sumAll 91 = .ok (.iadd, 1) := by decide +kernel
theorem dX8_sumAll_92 : decode cX8_sumAll 92 = .ok (.ireturn, 1) := by decide +kernel
set_option maxHeartbeats 4000000 in
set_option maxRecDepth 100000 in
theorem m_sumAll (l : Launch) (D : va_G) (k : Nat → ClassId) (st : Nat → Nat) (lo : Nat) (a : Nat → Nat) (tx : Nat) (t0 : Nat) (we : Nat) (rd : Nat) (ru : Nat) (rw : Nat) (ca : Nat) (fp : Int32) (wd : Int64) (nu : Int32) (na : Int32) (ts : Int32) (df : Int32) (db : Int32) (sd : Int32) (dn : Nat → Nat) (se : Nat → Nat) (tm : Nat → Nat) (gs : Nat → Int32) (fprices : Nat → Int32) (fwalks : Nat → Int32) (sn : Nat) (qa : Int32) (qb : Int32) (qc : Int32) (qd : Int32) (hca : ca ≤ 4) (hs : sn < 3) (hqa : qa < 0 ∨ ∃ d : Nat, d < 24 ∧ qa = nI d) (hqb : qb < 0 ∨ ∃ d : Nat, d < 24 ∧ qb = nI d) (hqc : qc < 0 ∨ ∃ d : Nat, d < 24 ∧ qc = nI d) (hqd : qd < 0 ∨ ∃ d : Nat, d < 24 ∧ qd = nI d) : CRi l D k st lo yX8_sumAll cX8_sumAll 7 (some .int) ({ frames := 4, cells := 0, slots := 0, locals := 94 }) [.ref (a 0), .int (nI sn), .int qa, .int qb, .int qc, .int qd] [((a 0), .inr (8, [.ref (a 1), .ref (a 2), .ref (a 3), .ref (a 4), .ref (a 5), .int (nI tx), .int fp, .int (nI t0), .long wd, .int (nI we), .int nu, .int na, .int (nI rd), .ref (a 14), .ref (a 15), .ref (a 16), .int ts, .ref (a 18), .ref (a 19), .ref (a 20), .ref (a 21), .ref (a 22), .ref (a 23), .int (nI ru), .ref (a 25), .ref (a 26), .ref (a 27), .ref (a 28), .ref (a 29), .ref (a 30), .int (nI rw), .ref (a 32), .ref (a 33), .ref (a 34), .int (nI ca), .ref (a 36), .ref (a 37), .int df, .int db, .ref (a 40), .ref (a 41), .int sd, .ref (a 43), .ref (a 44)])), ((a 1), .inl (k 1, 3, .inl (nF dn))), ((a 4), .inl (k 1, 27, .inl (sg se tm gs))), ((a 3), .inl (k 1, 72, .inl fprices)), ((a 36), .inl (k 1, 4, .inl fwalks))] (fun r => True) := by
  intro sz
  refine Met.ofW (cc := cX8_sumAll) (maxL := 7) (ret := (some .int)) (by decide) rfl ?_
  intro p e s m args below meth c s₁ B hml hv
  obtain ⟨rfl, hsz, hlo, hP, hK, hDL, hZ⟩ := hv
  have hx := B.exec
  have hb := B.bytes
  have hr := B.returns
  have hts := WS_ts B.pre
  have hown : s.vm.findClass RX8 = some m.cls := findClass_of_methodNamed B.named
  have hlocks := B.notSynchronized
  subst hsz
  have hA : ∀ q : Nat, s.heap.size ≤ q → (fun q : Nat => s.heap.size ≤ q) q := fun _ h => h
  have hAlo : ∀ q : Nat, (fun q : Nat => s.heap.size ≤ q) q → lo ≤ q := fun q h => Nat.le_trans hlo h
  have hS : va_S (fun q : Nat => s.heap.size ≤ q) s.heap s.heap [] := va_S.rf
  have hl := lv_entry ([.ref (a 0), .int (nI sn), .int qa, .int qb, .int qc, .int qd]) (n := 7) (Nat.le_of_ble_eq_true rfl)
  rw [lg_entry_eq]
  generalize (lg_sl ([.ref (a 0), .int (nI sn), .int qa, .int qb, .int qc, .int qd]) ++ List.replicate (7 - (lg_sl ([.ref (a 0), .int (nI sn), .int qa, .int qb, .int qc, .int qd])).length) Slot.unset).toArray = ls at hl ⊢
  have hl : lv_has ls 7 [(0, .ref (a 0)), (1, .int (nI sn)), (2, .int qa), (3, .int qb), (4, .int qc), (5, .int qd)] := hl
  refine lv_aload_n hx hb dX8_sumAll_0 rfl (lv_at hl 0 rfl) ?_
  refine va_get (D := D) (ci := 8) (v := .int (nI ca)) (C := RX8) (T := TX8) (N := 44) hx hb hts inX8 hown hK hP 0 rfl rfl 34 (by decide) (hts _ tw_1007) (fun _ h9 => h9) rfl dX8_sumAll_1 ?_
  refine lv_if_le (tgt := 17) hx hb dX8_sumAll_4 (by decide) (fun c_1 => ?_) (fun c_1 => ?_)
  · have c_1 := (nI_leI (a := ca) (b := 0) (by omega) (by omega)).mp c_1
    refine lv_iconst (v := 0) hx hb dX8_sumAll_17 (by decide) ?_
    refine lv_istore (lv' := [(6, .int 0), (0, .ref (a 0)), (1, .int (nI sn)), (2, .int qa), (3, .int qb), (4, .int qc), (5, .int qd)]) hx hb dX8_sumAll_18 hl (by decide) rfl (fun ls hl => ?_)
    refine lv_iload hx hb dX8_sumAll_20 (lv_at hl 0 rfl) ?_
    refine lv_aload_n hx hb dX8_sumAll_22 rfl (lv_at hl 1 rfl) ?_
    refine va_get (D := D) (ci := 8) (v := .int (nI ca)) (C := RX8) (T := TX8) (N := 44) hx hb hts inX8 hown hK hP 0 rfl rfl 34 (by decide) (hts _ tw_1007) (fun _ h9 => h9) rfl dX8_sumAll_23 ?_
    refine lv_iconst (v := 1) hx hb dX8_sumAll_26 (by decide) ?_
    refine lv_icmp_le (tgt := 40) hx hb dX8_sumAll_27 (by decide) (fun _ => ?_) (fun h => absurd ((nI_leI (a := ca) (b := 1) (by omega) (by omega)).mpr (by omega)) h)
    refine lv_iconst (v := 0) hx hb dX8_sumAll_40 (by decide) ?_
    refine lv_iadd hx hb dX8_sumAll_41 ?_
    refine lv_ti (y := 0) (by decide) ?_
    refine lv_istore (lv' := [(6, .int 0), (0, .ref (a 0)), (1, .int (nI sn)), (2, .int qa), (3, .int qb), (4, .int qc), (5, .int qd)]) hx hb dX8_sumAll_42 hl (by decide) rfl (fun ls hl => ?_)
    refine lv_iload hx hb dX8_sumAll_44 (lv_at hl 0 rfl) ?_
    refine lv_aload_n hx hb dX8_sumAll_46 rfl (lv_at hl 1 rfl) ?_
    refine va_get (D := D) (ci := 8) (v := .int (nI ca)) (C := RX8) (T := TX8) (N := 44) hx hb hts inX8 hown hK hP 0 rfl rfl 34 (by decide) (hts _ tw_1007) (fun _ h9 => h9) rfl dX8_sumAll_47 ?_
    refine lv_iconst (v := 2) hx hb dX8_sumAll_50 (by decide) ?_
    refine lv_icmp_le (tgt := 65) hx hb dX8_sumAll_51 (by decide) (fun _ => ?_) (fun h => absurd ((nI_leI (a := ca) (b := 2) (by omega) (by omega)).mpr (by omega)) h)
    refine lv_iconst (v := 0) hx hb dX8_sumAll_65 (by decide) ?_
    refine lv_iadd hx hb dX8_sumAll_66 ?_
    refine lv_ti (y := 0) (by decide) ?_
    refine lv_istore (lv' := [(6, .int 0), (0, .ref (a 0)), (1, .int (nI sn)), (2, .int qa), (3, .int qb), (4, .int qc), (5, .int qd)]) hx hb dX8_sumAll_67 hl (by decide) rfl (fun ls hl => ?_)
    refine lv_iload hx hb dX8_sumAll_69 (lv_at hl 0 rfl) ?_
    refine lv_aload_n hx hb dX8_sumAll_71 rfl (lv_at hl 1 rfl) ?_
    refine va_get (D := D) (ci := 8) (v := .int (nI ca)) (C := RX8) (T := TX8) (N := 44) hx hb hts inX8 hown hK hP 0 rfl rfl 34 (by decide) (hts _ tw_1007) (fun _ h9 => h9) rfl dX8_sumAll_72 ?_
    refine lv_iconst (v := 3) hx hb dX8_sumAll_75 (by decide) ?_
    refine lv_icmp_le (tgt := 90) hx hb dX8_sumAll_76 (by decide) (fun _ => ?_) (fun h => absurd ((nI_leI (a := ca) (b := 3) (by omega) (by omega)).mpr (by omega)) h)
    refine lv_iconst (v := 0) hx hb dX8_sumAll_90 (by decide) ?_
    refine lv_iadd hx hb dX8_sumAll_91 ?_
    refine lv_ti (y := 0) (by decide) ?_
    exact W.iret (v := 0) hx hb hr (fun t ht hW => ⟨⟨0, (), rfl, trivial, trivial⟩, hS.F ht⟩) hS.2.2 dX8_sumAll_92
  · have c_1 : ¬ (ca ≤ 0) := fun h => c_1 ((nI_leI (a := ca) (b := 0) (by omega) (by omega)).mpr h)
    refine lv_aload_n hx hb dX8_sumAll_7 rfl (lv_at hl 0 rfl) ?_
    refine lv_iload_n hx hb dX8_sumAll_8 rfl (lv_at hl 1 rfl) ?_
    refine lv_iconst (v := 0) hx hb dX8_sumAll_9 (by decide) ?_
    refine lv_iload_n hx hb dX8_sumAll_10 rfl (lv_at hl 2 rfl) ?_
    refine ro_i (D := D) (va_runV (As := [.int (nI sn), .int 0, .int qa]) (rest := []) ⟨hx, hb, hml, hown, hts⟩ ((m_costAt l D k st lo a tx t0 we rd ru rw ca fp wd nu na ts df db sd dn se tm gs fprices fwalks sn 0 qa (by omega) (by omega) hqa) s.heap.size) (cwV 3 hts (gV tw_1402 tw_1404 tw_67 tw_87 tw_1405) rfl rfl rfl (by decide +kernel) ⟨Nat.le_of_ble_eq_true rfl, Nat.le_of_ble_eq_true rfl⟩) (pV hS hAlo hlo hP hK hDL hZ [0, 1, 2, 3, 4] (by decide) rfl (ci := 8) (q0 := 0) rfl rfl) rfl rfl hl.1 rfl (lv_room (Nat.le_of_ble_eq_true rfl)) dX8_sumAll_11 ⟨Nat.le_of_ble_eq_true rfl, Nat.le_of_ble_eq_true rfl⟩) hS hA hP (fun r_5 H locs hw_5 hP hS => ?_)
    try dsimp only at hw_5
    refine lv_goto (tgt := 18) hx hb dX8_sumAll_14 (by decide) ?_
    refine lv_istore (lv' := [(6, .int r_5), (0, .ref (a 0)), (1, .int (nI sn)), (2, .int qa), (3, .int qb), (4, .int qc), (5, .int qd)]) hx hb dX8_sumAll_18 hl (by decide) rfl (fun ls hl => ?_)
    refine lv_iload hx hb dX8_sumAll_20 (lv_at hl 0 rfl) ?_
    refine lv_aload_n hx hb dX8_sumAll_22 rfl (lv_at hl 1 rfl) ?_
    refine va_get (D := D) (ci := 8) (v := .int (nI ca)) (C := RX8) (T := TX8) (N := 44) hx hb hts inX8 hown hK hP 0 rfl rfl 34 (by decide) (hts _ tw_1007) (fun _ h9 => h9) rfl dX8_sumAll_23 ?_
    refine lv_iconst (v := 1) hx hb dX8_sumAll_26 (by decide) ?_
    refine lv_icmp_le (tgt := 40) hx hb dX8_sumAll_27 (by decide) (fun c_6 => ?_) (fun c_6 => ?_)
    · have c_6 := (nI_leI (a := ca) (b := 1) (by omega) (by omega)).mp c_6
      refine lv_iconst (v := 0) hx hb dX8_sumAll_40 (by decide) ?_
      refine lv_iadd hx hb dX8_sumAll_41 ?_
      refine lv_topi (fun x_7 ex_7 => ?_)
      refine lv_istore (lv' := [(6, .int x_7), (0, .ref (a 0)), (1, .int (nI sn)), (2, .int qa), (3, .int qb), (4, .int qc), (5, .int qd)]) hx hb dX8_sumAll_42 hl (by decide) rfl (fun ls hl => ?_)
      refine lv_iload hx hb dX8_sumAll_44 (lv_at hl 0 rfl) ?_
      refine lv_aload_n hx hb dX8_sumAll_46 rfl (lv_at hl 1 rfl) ?_
      refine va_get (D := D) (ci := 8) (v := .int (nI ca)) (C := RX8) (T := TX8) (N := 44) hx hb hts inX8 hown hK hP 0 rfl rfl 34 (by decide) (hts _ tw_1007) (fun _ h9 => h9) rfl dX8_sumAll_47 ?_
      refine lv_iconst (v := 2) hx hb dX8_sumAll_50 (by decide) ?_
      refine lv_icmp_le (tgt := 65) hx hb dX8_sumAll_51 (by decide) (fun c_8 => ?_) (fun c_8 => ?_)
      · have c_8 := (nI_leI (a := ca) (b := 2) (by omega) (by omega)).mp c_8
        refine lv_iconst (v := 0) hx hb dX8_sumAll_65 (by decide) ?_
        refine lv_iadd hx hb dX8_sumAll_66 ?_
        refine lv_topi (fun x_9 ex_9 => ?_)
        refine lv_istore (lv' := [(6, .int x_9), (0, .ref (a 0)), (1, .int (nI sn)), (2, .int qa), (3, .int qb), (4, .int qc), (5, .int qd)]) hx hb dX8_sumAll_67 hl (by decide) rfl (fun ls hl => ?_)
        refine lv_iload hx hb dX8_sumAll_69 (lv_at hl 0 rfl) ?_
        refine lv_aload_n hx hb dX8_sumAll_71 rfl (lv_at hl 1 rfl) ?_
        refine va_get (D := D) (ci := 8) (v := .int (nI ca)) (C := RX8) (T := TX8) (N := 44) hx hb hts inX8 hown hK hP 0 rfl rfl 34 (by decide) (hts _ tw_1007) (fun _ h9 => h9) rfl dX8_sumAll_72 ?_
        refine lv_iconst (v := 3) hx hb dX8_sumAll_75 (by decide) ?_
        refine lv_icmp_le (tgt := 90) hx hb dX8_sumAll_76 (by decide) (fun c_10 => ?_) (fun c_10 => ?_)
        · have c_10 := (nI_leI (a := ca) (b := 3) (by omega) (by omega)).mp c_10
          refine lv_iconst (v := 0) hx hb dX8_sumAll_90 (by decide) ?_
          refine lv_iadd hx hb dX8_sumAll_91 ?_
          refine lv_topi (fun x_11 ex_11 => ?_)
          exact W.iret (v := x_11) hx hb hr (fun t ht hW => ⟨⟨x_11, (), rfl, trivial, trivial⟩, hS.F ht⟩) hS.2.2 dX8_sumAll_92
        · have c_10 : ¬ (ca ≤ 3) := fun h => c_10 ((nI_leI (a := ca) (b := 3) (by omega) (by omega)).mpr h)
          refine lv_aload_n hx hb dX8_sumAll_79 rfl (lv_at hl 1 rfl) ?_
          refine lv_iload_n hx hb dX8_sumAll_80 rfl (lv_at hl 2 rfl) ?_
          refine lv_iconst (v := 3) hx hb dX8_sumAll_81 (by decide) ?_
          refine lv_iload hx hb dX8_sumAll_82 (lv_at hl 6 rfl) ?_
          refine ro_i (D := D) (va_runV (As := [.int (nI sn), .int 3, .int qd]) (rest := [.int x_9]) ⟨hx, hb, hml, hown, hts⟩ ((m_costAt l D k st lo a tx t0 we rd ru rw ca fp wd nu na ts df db sd dn se tm gs fprices fwalks sn 3 qd (by omega) (by omega) hqd) H.size) (cwV 3 hts (gV tw_1402 tw_1404 tw_67 tw_87 tw_1405) rfl rfl rfl (by decide +kernel) ⟨Nat.le_of_ble_eq_true rfl, Nat.le_of_ble_eq_true rfl⟩) (pV hS hAlo hlo hP hK hDL hZ [0, 1, 2, 3, 4] (by decide) rfl (ci := 8) (q0 := 0) rfl rfl) rfl rfl hl.1 rfl (lv_room (Nat.le_of_ble_eq_true rfl)) dX8_sumAll_84 ⟨Nat.le_of_ble_eq_true rfl, Nat.le_of_ble_eq_true rfl⟩) hS hA hP (fun r_12 H locs hw_12 hP hS => ?_)
          try dsimp only at hw_12
          refine lv_goto (tgt := 91) hx hb dX8_sumAll_87 (by decide) ?_
          refine lv_iadd hx hb dX8_sumAll_91 ?_
          refine lv_topi (fun x_13 ex_13 => ?_)
          exact W.iret (v := x_13) hx hb hr (fun t ht hW => ⟨⟨x_13, (), rfl, trivial, trivial⟩, hS.F ht⟩) hS.2.2 dX8_sumAll_92
      · have c_8 : ¬ (ca ≤ 2) := fun h => c_8 ((nI_leI (a := ca) (b := 2) (by omega) (by omega)).mpr h)
        refine lv_aload_n hx hb dX8_sumAll_54 rfl (lv_at hl 1 rfl) ?_
        refine lv_iload_n hx hb dX8_sumAll_55 rfl (lv_at hl 2 rfl) ?_
        refine lv_iconst (v := 2) hx hb dX8_sumAll_56 (by decide) ?_
        refine lv_iload hx hb dX8_sumAll_57 (lv_at hl 5 rfl) ?_
        refine ro_i (D := D) (va_runV (As := [.int (nI sn), .int 2, .int qc]) (rest := [.int x_7]) ⟨hx, hb, hml, hown, hts⟩ ((m_costAt l D k st lo a tx t0 we rd ru rw ca fp wd nu na ts df db sd dn se tm gs fprices fwalks sn 2 qc (by omega) (by omega) hqc) H.size) (cwV 3 hts (gV tw_1402 tw_1404 tw_67 tw_87 tw_1405) rfl rfl rfl (by decide +kernel) ⟨Nat.le_of_ble_eq_true rfl, Nat.le_of_ble_eq_true rfl⟩) (pV hS hAlo hlo hP hK hDL hZ [0, 1, 2, 3, 4] (by decide) rfl (ci := 8) (q0 := 0) rfl rfl) rfl rfl hl.1 rfl (lv_room (Nat.le_of_ble_eq_true rfl)) dX8_sumAll_59 ⟨Nat.le_of_ble_eq_true rfl, Nat.le_of_ble_eq_true rfl⟩) hS hA hP (fun r_14 H locs hw_14 hP hS => ?_)
        try dsimp only at hw_14
        refine lv_goto (tgt := 66) hx hb dX8_sumAll_62 (by decide) ?_
        refine lv_iadd hx hb dX8_sumAll_66 ?_
        refine lv_topi (fun x_15 ex_15 => ?_)
        refine lv_istore (lv' := [(6, .int x_15), (0, .ref (a 0)), (1, .int (nI sn)), (2, .int qa), (3, .int qb), (4, .int qc), (5, .int qd)]) hx hb dX8_sumAll_67 hl (by decide) rfl (fun ls hl => ?_)
        refine lv_iload hx hb dX8_sumAll_69 (lv_at hl 0 rfl) ?_
        refine lv_aload_n hx hb dX8_sumAll_71 rfl (lv_at hl 1 rfl) ?_
        refine va_get (D := D) (ci := 8) (v := .int (nI ca)) (C := RX8) (T := TX8) (N := 44) hx hb hts inX8 hown hK hP 0 rfl rfl 34 (by decide) (hts _ tw_1007) (fun _ h9 => h9) rfl dX8_sumAll_72 ?_
        refine lv_iconst (v := 3) hx hb dX8_sumAll_75 (by decide) ?_
        refine lv_icmp_le (tgt := 90) hx hb dX8_sumAll_76 (by decide) (fun c_16 => ?_) (fun c_16 => ?_)
        · have c_16 := (nI_leI (a := ca) (b := 3) (by omega) (by omega)).mp c_16
          refine lv_iconst (v := 0) hx hb dX8_sumAll_90 (by decide) ?_
          refine lv_iadd hx hb dX8_sumAll_91 ?_
          refine lv_topi (fun x_17 ex_17 => ?_)
          exact W.iret (v := x_17) hx hb hr (fun t ht hW => ⟨⟨x_17, (), rfl, trivial, trivial⟩, hS.F ht⟩) hS.2.2 dX8_sumAll_92
        · have c_16 : ¬ (ca ≤ 3) := fun h => c_16 ((nI_leI (a := ca) (b := 3) (by omega) (by omega)).mpr h)
          refine lv_aload_n hx hb dX8_sumAll_79 rfl (lv_at hl 1 rfl) ?_
          refine lv_iload_n hx hb dX8_sumAll_80 rfl (lv_at hl 2 rfl) ?_
          refine lv_iconst (v := 3) hx hb dX8_sumAll_81 (by decide) ?_
          refine lv_iload hx hb dX8_sumAll_82 (lv_at hl 6 rfl) ?_
          refine ro_i (D := D) (va_runV (As := [.int (nI sn), .int 3, .int qd]) (rest := [.int x_15]) ⟨hx, hb, hml, hown, hts⟩ ((m_costAt l D k st lo a tx t0 we rd ru rw ca fp wd nu na ts df db sd dn se tm gs fprices fwalks sn 3 qd (by omega) (by omega) hqd) H.size) (cwV 3 hts (gV tw_1402 tw_1404 tw_67 tw_87 tw_1405) rfl rfl rfl (by decide +kernel) ⟨Nat.le_of_ble_eq_true rfl, Nat.le_of_ble_eq_true rfl⟩) (pV hS hAlo hlo hP hK hDL hZ [0, 1, 2, 3, 4] (by decide) rfl (ci := 8) (q0 := 0) rfl rfl) rfl rfl hl.1 rfl (lv_room (Nat.le_of_ble_eq_true rfl)) dX8_sumAll_84 ⟨Nat.le_of_ble_eq_true rfl, Nat.le_of_ble_eq_true rfl⟩) hS hA hP (fun r_18 H locs hw_18 hP hS => ?_)
          try dsimp only at hw_18
          refine lv_goto (tgt := 91) hx hb dX8_sumAll_87 (by decide) ?_
          refine lv_iadd hx hb dX8_sumAll_91 ?_
          refine lv_topi (fun x_19 ex_19 => ?_)
          exact W.iret (v := x_19) hx hb hr (fun t ht hW => ⟨⟨x_19, (), rfl, trivial, trivial⟩, hS.F ht⟩) hS.2.2 dX8_sumAll_92
    · have c_6 : ¬ (ca ≤ 1) := fun h => c_6 ((nI_leI (a := ca) (b := 1) (by omega) (by omega)).mpr h)
      refine lv_aload_n hx hb dX8_sumAll_30 rfl (lv_at hl 1 rfl) ?_
      refine lv_iload_n hx hb dX8_sumAll_31 rfl (lv_at hl 2 rfl) ?_
      refine lv_iconst (v := 1) hx hb dX8_sumAll_32 (by decide) ?_
      refine lv_iload_n hx hb dX8_sumAll_33 rfl (lv_at hl 4 rfl) ?_
      refine ro_i (D := D) (va_runV (As := [.int (nI sn), .int 1, .int qb]) (rest := [.int r_5]) ⟨hx, hb, hml, hown, hts⟩ ((m_costAt l D k st lo a tx t0 we rd ru rw ca fp wd nu na ts df db sd dn se tm gs fprices fwalks sn 1 qb (by omega) (by omega) hqb) H.size) (cwV 3 hts (gV tw_1402 tw_1404 tw_67 tw_87 tw_1405) rfl rfl rfl (by decide +kernel) ⟨Nat.le_of_ble_eq_true rfl, Nat.le_of_ble_eq_true rfl⟩) (pV hS hAlo hlo hP hK hDL hZ [0, 1, 2, 3, 4] (by decide) rfl (ci := 8) (q0 := 0) rfl rfl) rfl rfl hl.1 rfl (lv_room (Nat.le_of_ble_eq_true rfl)) dX8_sumAll_34 ⟨Nat.le_of_ble_eq_true rfl, Nat.le_of_ble_eq_true rfl⟩) hS hA hP (fun r_20 H locs hw_20 hP hS => ?_)
      try dsimp only at hw_20
      refine lv_goto (tgt := 41) hx hb dX8_sumAll_37 (by decide) ?_
      refine lv_iadd hx hb dX8_sumAll_41 ?_
      refine lv_topi (fun x_21 ex_21 => ?_)
      refine lv_istore (lv' := [(6, .int x_21), (0, .ref (a 0)), (1, .int (nI sn)), (2, .int qa), (3, .int qb), (4, .int qc), (5, .int qd)]) hx hb dX8_sumAll_42 hl (by decide) rfl (fun ls hl => ?_)
      refine lv_iload hx hb dX8_sumAll_44 (lv_at hl 0 rfl) ?_
      refine lv_aload_n hx hb dX8_sumAll_46 rfl (lv_at hl 1 rfl) ?_
      refine va_get (D := D) (ci := 8) (v := .int (nI ca)) (C := RX8) (T := TX8) (N := 44) hx hb hts inX8 hown hK hP 0 rfl rfl 34 (by decide) (hts _ tw_1007) (fun _ h9 => h9) rfl dX8_sumAll_47 ?_
      refine lv_iconst (v := 2) hx hb dX8_sumAll_50 (by decide) ?_
      refine lv_icmp_le (tgt := 65) hx hb dX8_sumAll_51 (by decide) (fun c_22 => ?_) (fun c_22 => ?_)
      · have c_22 := (nI_leI (a := ca) (b := 2) (by omega) (by omega)).mp c_22
        refine lv_iconst (v := 0) hx hb dX8_sumAll_65 (by decide) ?_
        refine lv_iadd hx hb dX8_sumAll_66 ?_
        refine lv_topi (fun x_23 ex_23 => ?_)
        refine lv_istore (lv' := [(6, .int x_23), (0, .ref (a 0)), (1, .int (nI sn)), (2, .int qa), (3, .int qb), (4, .int qc), (5, .int qd)]) hx hb dX8_sumAll_67 hl (by decide) rfl (fun ls hl => ?_)
        refine lv_iload hx hb dX8_sumAll_69 (lv_at hl 0 rfl) ?_
        refine lv_aload_n hx hb dX8_sumAll_71 rfl (lv_at hl 1 rfl) ?_
        refine va_get (D := D) (ci := 8) (v := .int (nI ca)) (C := RX8) (T := TX8) (N := 44) hx hb hts inX8 hown hK hP 0 rfl rfl 34 (by decide) (hts _ tw_1007) (fun _ h9 => h9) rfl dX8_sumAll_72 ?_
        refine lv_iconst (v := 3) hx hb dX8_sumAll_75 (by decide) ?_
        refine lv_icmp_le (tgt := 90) hx hb dX8_sumAll_76 (by decide) (fun c_24 => ?_) (fun c_24 => ?_)
        · have c_24 := (nI_leI (a := ca) (b := 3) (by omega) (by omega)).mp c_24
          refine lv_iconst (v := 0) hx hb dX8_sumAll_90 (by decide) ?_
          refine lv_iadd hx hb dX8_sumAll_91 ?_
          refine lv_topi (fun x_25 ex_25 => ?_)
          exact W.iret (v := x_25) hx hb hr (fun t ht hW => ⟨⟨x_25, (), rfl, trivial, trivial⟩, hS.F ht⟩) hS.2.2 dX8_sumAll_92
        · have c_24 : ¬ (ca ≤ 3) := fun h => c_24 ((nI_leI (a := ca) (b := 3) (by omega) (by omega)).mpr h)
          refine lv_aload_n hx hb dX8_sumAll_79 rfl (lv_at hl 1 rfl) ?_
          refine lv_iload_n hx hb dX8_sumAll_80 rfl (lv_at hl 2 rfl) ?_
          refine lv_iconst (v := 3) hx hb dX8_sumAll_81 (by decide) ?_
          refine lv_iload hx hb dX8_sumAll_82 (lv_at hl 6 rfl) ?_
          refine ro_i (D := D) (va_runV (As := [.int (nI sn), .int 3, .int qd]) (rest := [.int x_23]) ⟨hx, hb, hml, hown, hts⟩ ((m_costAt l D k st lo a tx t0 we rd ru rw ca fp wd nu na ts df db sd dn se tm gs fprices fwalks sn 3 qd (by omega) (by omega) hqd) H.size) (cwV 3 hts (gV tw_1402 tw_1404 tw_67 tw_87 tw_1405) rfl rfl rfl (by decide +kernel) ⟨Nat.le_of_ble_eq_true rfl, Nat.le_of_ble_eq_true rfl⟩) (pV hS hAlo hlo hP hK hDL hZ [0, 1, 2, 3, 4] (by decide) rfl (ci := 8) (q0 := 0) rfl rfl) rfl rfl hl.1 rfl (lv_room (Nat.le_of_ble_eq_true rfl)) dX8_sumAll_84 ⟨Nat.le_of_ble_eq_true rfl, Nat.le_of_ble_eq_true rfl⟩) hS hA hP (fun r_26 H locs hw_26 hP hS => ?_)
          try dsimp only at hw_26
          refine lv_goto (tgt := 91) hx hb dX8_sumAll_87 (by decide) ?_
          refine lv_iadd hx hb dX8_sumAll_91 ?_
          refine lv_topi (fun x_27 ex_27 => ?_)
          exact W.iret (v := x_27) hx hb hr (fun t ht hW => ⟨⟨x_27, (), rfl, trivial, trivial⟩, hS.F ht⟩) hS.2.2 dX8_sumAll_92
      · have c_22 : ¬ (ca ≤ 2) := fun h => c_22 ((nI_leI (a := ca) (b := 2) (by omega) (by omega)).mpr h)
        refine lv_aload_n hx hb dX8_sumAll_54 rfl (lv_at hl 1 rfl) ?_
        refine lv_iload_n hx hb dX8_sumAll_55 rfl (lv_at hl 2 rfl) ?_
        refine lv_iconst (v := 2) hx hb dX8_sumAll_56 (by decide) ?_
        refine lv_iload hx hb dX8_sumAll_57 (lv_at hl 5 rfl) ?_
        refine ro_i (D := D) (va_runV (As := [.int (nI sn), .int 2, .int qc]) (rest := [.int x_21]) ⟨hx, hb, hml, hown, hts⟩ ((m_costAt l D k st lo a tx t0 we rd ru rw ca fp wd nu na ts df db sd dn se tm gs fprices fwalks sn 2 qc (by omega) (by omega) hqc) H.size) (cwV 3 hts (gV tw_1402 tw_1404 tw_67 tw_87 tw_1405) rfl rfl rfl (by decide +kernel) ⟨Nat.le_of_ble_eq_true rfl, Nat.le_of_ble_eq_true rfl⟩) (pV hS hAlo hlo hP hK hDL hZ [0, 1, 2, 3, 4] (by decide) rfl (ci := 8) (q0 := 0) rfl rfl) rfl rfl hl.1 rfl (lv_room (Nat.le_of_ble_eq_true rfl)) dX8_sumAll_59 ⟨Nat.le_of_ble_eq_true rfl, Nat.le_of_ble_eq_true rfl⟩) hS hA hP (fun r_28 H locs hw_28 hP hS => ?_)
        try dsimp only at hw_28
        refine lv_goto (tgt := 66) hx hb dX8_sumAll_62 (by decide) ?_
        refine lv_iadd hx hb dX8_sumAll_66 ?_
        refine lv_topi (fun x_29 ex_29 => ?_)
        refine lv_istore (lv' := [(6, .int x_29), (0, .ref (a 0)), (1, .int (nI sn)), (2, .int qa), (3, .int qb), (4, .int qc), (5, .int qd)]) hx hb dX8_sumAll_67 hl (by decide) rfl (fun ls hl => ?_)
        refine lv_iload hx hb dX8_sumAll_69 (lv_at hl 0 rfl) ?_
        refine lv_aload_n hx hb dX8_sumAll_71 rfl (lv_at hl 1 rfl) ?_
        refine va_get (D := D) (ci := 8) (v := .int (nI ca)) (C := RX8) (T := TX8) (N := 44) hx hb hts inX8 hown hK hP 0 rfl rfl 34 (by decide) (hts _ tw_1007) (fun _ h9 => h9) rfl dX8_sumAll_72 ?_
        refine lv_iconst (v := 3) hx hb dX8_sumAll_75 (by decide) ?_
        refine lv_icmp_le (tgt := 90) hx hb dX8_sumAll_76 (by decide) (fun c_30 => ?_) (fun c_30 => ?_)
        · have c_30 := (nI_leI (a := ca) (b := 3) (by omega) (by omega)).mp c_30
          refine lv_iconst (v := 0) hx hb dX8_sumAll_90 (by decide) ?_
          refine lv_iadd hx hb dX8_sumAll_91 ?_
          refine lv_topi (fun x_31 ex_31 => ?_)
          exact W.iret (v := x_31) hx hb hr (fun t ht hW => ⟨⟨x_31, (), rfl, trivial, trivial⟩, hS.F ht⟩) hS.2.2 dX8_sumAll_92
        · have c_30 : ¬ (ca ≤ 3) := fun h => c_30 ((nI_leI (a := ca) (b := 3) (by omega) (by omega)).mpr h)
          refine lv_aload_n hx hb dX8_sumAll_79 rfl (lv_at hl 1 rfl) ?_
          refine lv_iload_n hx hb dX8_sumAll_80 rfl (lv_at hl 2 rfl) ?_
          refine lv_iconst (v := 3) hx hb dX8_sumAll_81 (by decide) ?_
          refine lv_iload hx hb dX8_sumAll_82 (lv_at hl 6 rfl) ?_
          refine ro_i (D := D) (va_runV (As := [.int (nI sn), .int 3, .int qd]) (rest := [.int x_29]) ⟨hx, hb, hml, hown, hts⟩ ((m_costAt l D k st lo a tx t0 we rd ru rw ca fp wd nu na ts df db sd dn se tm gs fprices fwalks sn 3 qd (by omega) (by omega) hqd) H.size) (cwV 3 hts (gV tw_1402 tw_1404 tw_67 tw_87 tw_1405) rfl rfl rfl (by decide +kernel) ⟨Nat.le_of_ble_eq_true rfl, Nat.le_of_ble_eq_true rfl⟩) (pV hS hAlo hlo hP hK hDL hZ [0, 1, 2, 3, 4] (by decide) rfl (ci := 8) (q0 := 0) rfl rfl) rfl rfl hl.1 rfl (lv_room (Nat.le_of_ble_eq_true rfl)) dX8_sumAll_84 ⟨Nat.le_of_ble_eq_true rfl, Nat.le_of_ble_eq_true rfl⟩) hS hA hP (fun r_32 H locs hw_32 hP hS => ?_)
          try dsimp only at hw_32
          refine lv_goto (tgt := 91) hx hb dX8_sumAll_87 (by decide) ?_
          refine lv_iadd hx hb dX8_sumAll_91 ?_
          refine lv_topi (fun x_33 ex_33 => ?_)
          exact W.iret (v := x_33) hx hb hr (fun t ht hW => ⟨⟨x_33, (), rfl, trivial, trivial⟩, hS.F ht⟩) hS.2.2 dX8_sumAll_92


theorem f_m_isRule_rows : True := trivial
theorem dX8_isRule_0 : decode cX8_isRule 0 = .ok (.iload_n 1, 1) := by decide +kernel
theorem dX8_isRule_1 : decode cX8_isRule 1 = .ok (.i2l, 1) := by decide +kernel
theorem dX8_isRule_2 : decode cX8_isRule 2 = .ok (.lconst 0, 1) := by decide +kernel
theorem dX8_isRule_3 : decode cX8_isRule 3 = .ok (.aload_n 0, 1) := by decide +kernel
theorem dX8_isRule_4 : decode cX8_isRule 4 = .ok (.getfield 276, 3) := by decide +kernel
theorem dX8_isRule_7 : decode cX8_isRule 7 = .ok (.iconst 1, 1) := by decide +kernel
theorem dX8_isRule_8 : decode cX8_isRule 8 = .ok (.isub, 1) := by decide +kernel
theorem dX8_isRule_9 : decode cX8_isRule 9 = .ok (.i2l, 1) := by decide +kernel
theorem dX8_isRule_10 : decode cX8_isRule 10 = .ok (.invokestatic 107, 3) := by decide +kernel
theorem dX8_isRule_13 : decode cX8_isRule 13 = .ok (.ireturn, 1) := by decide +kernel
theorem dX8_isCar_0 : decode cX8_isCar 0 = .ok (.iload_n 1, 1) := by decide +kernel
theorem dX8_isCar_1 : decode cX8_isCar 1 = .ok (.i2l, 1) := by decide +kernel
theorem dX8_isCar_2 : decode cX8_isCar 2 = .ok (.lconst 0, 1) := by decide +kernel
theorem dX8_isCar_3 : decode cX8_isCar 3 = .ok (.aload_n 0, 1) := by decide +kernel
theorem dX8_isCar_4 : decode cX8_isCar 4 = .ok (.getfield 315, 3) := by decide +kernel
theorem dX8_isCar_7 : decode cX8_isCar 7 = .ok (.iconst 1, 1) := by decide +kernel
theorem dX8_isCar_8 : decode cX8_isCar 8 = .ok (.isub, 1) := by decide +kernel
theorem dX8_isCar_9 : decode cX8_isCar 9 = .ok (.i2l, 1) := by decide +kernel
theorem dX8_isCar_10 : decode cX8_isCar 10 = .ok (.invokestatic 107, 3) := by decide +kernel
theorem dX8_isCar_13 : decode cX8_isCar 13 = .ok (.ireturn, 1) := by decide +kernel
set_option maxHeartbeats 4000000 in
set_option maxRecDepth 100000 in
theorem m_isCar (l : Launch) (D : va_G) (k : Nat → ClassId) (st : Nat → Nat) (lo : Nat) (a : Nat → Nat) (tx : Nat) (t0 : Nat) (we : Nat) (rd : Nat) (ru : Nat) (rw : Nat) (ca : Nat) (fp : Int32) (wd : Int64) (nu : Int32) (na : Int32) (ts : Int32) (df : Int32) (db : Int32) (sd : Int32) (pz : Int32) (hca : ca ≤ 4) : CRi l D k st lo yX8_isCar cX8_isCar 2 (some .boolean) ({ frames := 1, cells := 0, slots := 0, locals := 25 }) [.ref (a 0), .int pz] [((a 0), .inr (8, (fX8 a (nI tx) fp (nI t0) wd (nI we) nu na (nI rd) ts (nI ru) (nI rw) (nI ca) df db sd)))] (fun r => (r = 1 ∧ ∃ j : Nat, j < ca ∧ pz = nI j ∧ True) ∨ r = 0) := by
  intro sz
  refine Met.ofW (cc := cX8_isCar) (maxL := 2) (ret := (some .boolean)) (by decide) rfl ?_
  intro p e s m args below meth c s₁ B hml hv
  obtain ⟨rfl, hsz, hlo, hP, hK, hDL, hZ⟩ := hv
  have hx := B.exec
  have hb := B.bytes
  have hr := B.returns
  have hts := WS_ts B.pre
  have hown : s.vm.findClass RX8 = some m.cls := findClass_of_methodNamed B.named
  have hlocks := B.notSynchronized
  subst hsz
  have hA : ∀ q : Nat, s.heap.size ≤ q → (fun q : Nat => s.heap.size ≤ q) q := fun _ h => h
  have hAlo : ∀ q : Nat, (fun q : Nat => s.heap.size ≤ q) q → lo ≤ q := fun q h => Nat.le_trans hlo h
  have hS : va_S (fun q : Nat => s.heap.size ≤ q) s.heap s.heap [] := va_S.rf
  have hl := lv_entry ([.ref (a 0), .int pz]) (n := 2) (Nat.le_of_ble_eq_true rfl)
  rw [lg_entry_eq]
  generalize (lg_sl ([.ref (a 0), .int pz]) ++ List.replicate (2 - (lg_sl ([.ref (a 0), .int pz])).length) Slot.unset).toArray = ls at hl ⊢
  have hl : lv_has ls 2 [(0, .ref (a 0)), (1, .int pz)] := hl
  refine lv_iload_n hx hb dX8_isCar_0 rfl (lv_at hl 1 rfl) ?_
  refine lv_i2l (v := pz.toInt64) hx hb dX8_isCar_1 rfl ?_
  refine lv_lconst (v := (0 : Int32).toInt64) hx hb dX8_isCar_2 (by decide) ?_
  refine lv_aload_n hx hb dX8_isCar_3 rfl (lv_at hl 0 rfl) ?_
  refine va_get (D := D) (ci := 8) (v := .int (nI ca)) (C := RX8) (T := TX8) (N := 44) hx hb hts inX8 hown hK hP 0 rfl rfl 34 (by decide) (hts _ tw_1007) (fun _ h9 => h9) rfl dX8_isCar_4 ?_
  refine lv_iconst (v := 1) hx hb dX8_isCar_7 (by decide) ?_
  refine lv_isub hx hb dX8_isCar_8 ?_
  refine lv_topi (fun x_1 ex_1 => ?_)
  refine lv_i2l (v := x_1.toInt64) hx hb dX8_isCar_9 rfl ?_
  refine ro_i (D := D) (va_runS (As := [.long (pz.toInt64), .long ((0 : Int32).toInt64), .long (x_1.toInt64)]) (rest := []) ⟨hx, hb, hml, hown, hts⟩ ((k_in l D k st lo pz (0 : Int32) x_1) s.heap.size) (va_cwS 3 hts (gS tw_1111 tw_1112 tw_87 tw_1113) rfl rfl rfl (by decide +kernel) ⟨Nat.le_of_ble_eq_true rfl, Nat.le_of_ble_eq_true rfl⟩) (pS hS hAlo hlo hP hK hDL hZ [] (by decide) rfl) rfl rfl hl.1 rfl (lv_room (Nat.le_of_ble_eq_true rfl)) dX8_isCar_10 ⟨Nat.le_of_ble_eq_true rfl, Nat.le_of_ble_eq_true rfl⟩) hS hA hP (fun r_2 H locs hw_2 hP hS => ?_)
  try dsimp only at hw_2
  rcases hw_2 with ⟨rfl, hw_2⟩ | ⟨rfl, hw_2⟩
  · exact W.zret (v := 1) (ty := .boolean) hx hb hr rfl (fun t ht hW => ⟨⟨1, (), rfl, .inl ⟨rfl, (by rw [ex_1] at hw_2; obtain ⟨j, hj, e⟩ := inB_of1 (by omega) hw_2; exact ⟨j, hj, e, trivial⟩)⟩, trivial⟩, hS.F ht⟩) hS.2.2 dX8_isCar_13
  · exact W.zret (v := 0) (ty := .boolean) hx hb hr rfl (fun t ht hW => ⟨⟨0, (), rfl, .inr rfl, trivial⟩, hS.F ht⟩) hS.2.2 dX8_isCar_13

theorem f_m_isFor_rows : True := trivial
theorem dX8_isFor_0 : decode cX8_isFor 0 = .ok (.aload_n 0, 1) := by decide +kernel
theorem dX8_isFor_1 : decode cX8_isFor 1 = .ok (.getfield 63, 3) := by decide +kernel
theorem dX8_isFor_4 : decode cX8_isFor 4 = .ok (.bipush 12, 2) := by decide +kernel
theorem dX8_isFor_6 : decode cX8_isFor 6 = .ok (.iload_n 1, 1) := by decide +kernel
theorem dX8_isFor_7 : decode cX8_isFor 7 = .ok (.imul, 1) := by decide +kernel
theorem dX8_isFor_8 : decode cX8_isFor 8 = .ok (.iaload, 1) := by decide +kernel
theorem dX8_isFor_9 : decode cX8_isFor 9 = .ok (.istore 4, 2) := by decide +kernel
theorem dX8_isFor_11 : decode cX8_isFor 11 = .ok (.iconst 1, 1) := by decide +kernel
theorem dX8_isFor_12 : decode cX8_isFor 12 = .ok (.istore 5, 2) := by decide +kernel
theorem dX8_isFor_14 : decode cX8_isFor 14 = .ok (.iload 5, 2) := by decide +kernel
theorem dX8_isFor_16 : decode cX8_isFor 16 = .ok (.aload_n 0, 1) := by decide +kernel
theorem dX8_isFor_17 : decode cX8_isFor 17 = .ok (.getfield 57, 3) := by decide +kernel
theorem dX8_isFor_20 : decode cX8_isFor 20 = .ok (.iload_n 1, 1) := by decide +kernel
theorem dX8_isFor_21 : decode cX8_isFor 21 = .ok (.iaload, 1) := by decide +kernel
theorem dX8_isFor_22 : decode cX8_isFor 22 = .ok (.if_icmp .ge 44, 3) := by decide +kernel
theorem dX8_isFor_25 : decode cX8_isFor 25 = .ok (.aload_n 0, 1) := by decide +kernel
theorem dX8_isFor_26 : decode cX8_isFor 26 = .ok (.getfield 60, 3) := by decide +kernel
theorem dX8_isFor_29 : decode cX8_isFor 29 = .ok (.bipush 12, 2) := by decide +kernel
theorem dX8_isFor_31 : decode cX8_isFor 31 = .ok (.iload_n 1, 1) := by decide +kernel
theorem dX8_isFor_32 : decode cX8_isFor 32 = .ok (.imul, 1) := by decide +kernel
theorem dX8_isFor_33 : decode cX8_isFor 33 = .ok (.iload 5, 2) := by decide +kernel
theorem dX8_isFor_35 : decode cX8_isFor 35 = .ok (.iadd, 1) := by decide +kernel
theorem dX8_isFor_36 : decode cX8_isFor 36 = .ok (.iaload, 1) := by decide +kernel
theorem dX8_isFor_37 : decode cX8_isFor 37 = .ok (.iload_n 3, 1) := by decide +kernel
theorem dX8_isFor_38 : decode cX8_isFor 38 = .ok (.if_icmp .gt 18, 3) := by decide +kernel
theorem dX8_isFor_41 : decode cX8_isFor 41 = .ok (.aload_n 0, 1) := by decide +kernel
theorem dX8_isFor_42 : decode cX8_isFor 42 = .ok (.getfield 63, 3) := by decide +kernel
theorem dX8_isFor_45 : decode cX8_isFor 45 = .ok (.bipush 12, 2) := by decide +kernel
theorem dX8_isFor_47 : decode cX8_isFor 47 = .ok (.iload_n 1, 1) := by decide +kernel
theorem dX8_isFor_48 : decode cX8_isFor 48 = .ok (.imul, 1) := by decide +kernel
theorem dX8_isFor_49 : decode cX8_isFor 49 = .ok (.iload 5, 2) := by decide +kernel
theorem dX8_isFor_51 : decode cX8_isFor 51 = .ok (.iadd, 1) := by decide +kernel
theorem dX8_isFor_52 : decode cX8_isFor 52 = .ok (.iaload, 1) := by decide +kernel
theorem dX8_isFor_53 : decode cX8_isFor 53 = .ok (.goto 5, 3) := by decide +kernel
theorem dX8_isFor_56 : decode cX8_isFor 56 = .ok (.iload 4, 2) := by decide +kernel
theorem dX8_isFor_58 : decode cX8_isFor 58 = .ok (.istore 4, 2) := by decide +kernel
theorem dX8_isFor_60 : decode cX8_isFor 60 = .ok (.iinc 5 1, 3) := by decide +kernel
theorem dX8_isFor_63 : decode cX8_isFor 63 = .ok (.goto (-49), 3) := by decide +kernel
theorem dX8_isFor_66 : decode cX8_isFor 66 = .ok (.iload_n 2, 1) := by decide +kernel
theorem dX8_isFor_67 : decode cX8_isFor 67 = .ok (.iload 4, 2) := by decide +kernel
theorem dX8_isFor_69 : decode cX8_isFor 69 = .ok (.if_icmp .lt 7, 3) := by decide +kernel
theorem dX8_isFor_72 : decode cX8_isFor 72 = .ok (.iconst 1, 1) := by decide +kernel
theorem dX8_isFor_73 : decode cX8_isFor 73 = .ok (.goto 4, 3) := by decide +kernel
theorem dX8_isFor_76 : decode cX8_isFor 76 = .ok (.iconst 0, 1) := by decide +kernel
theorem dX8_isFor_77 : decode cX8_isFor 77 = .ok (.ireturn, 1) := by decide +kernel
theorem f_m_isRoundBy_rows : True := trivial
theorem dX8_isRoundBy_0 : decode cX8_isRoundBy 0 = .ok (.iload_n 3, 1) := by decide +kernel
theorem dX8_isRoundBy_1 : decode cX8_isRoundBy 1 = .ok (.aload_n 0, 1) := by decide +kernel
theorem dX8_isRoundBy_2 : decode cX8_isRoundBy 2 = .ok (.getfield 66, 3) := by decide +kernel
theorem dX8_isRoundBy_5 : decode cX8_isRoundBy 5 = .ok (.iload_n 2, 1) := by decide +kernel
theorem dX8_isRoundBy_6 : decode cX8_isRoundBy 6 = .ok (.iaload, 1) := by decide +kernel
theorem dX8_isRoundBy_7 : decode cX8_isRoundBy 7 = .ok (.if_icmp .ge 18, 3) := by decide +kernel
theorem dX8_isRoundBy_10 : decode cX8_isRoundBy 10 = .ok (.iload_n 3, 1) := by decide +kernel
theorem dX8_isRoundBy_11 : decode cX8_isRoundBy 11 = .ok (.aload_n 0, 1) := by decide +kernel
theorem dX8_isRoundBy_12 : decode cX8_isRoundBy 12 = .ok (.iload_n 1, 1) := by decide +kernel
theorem dX8_isRoundBy_13 : decode cX8_isRoundBy 13 = .ok (.bipush 7, 2) := by decide +kernel
theorem dX8_isRoundBy_15 : decode cX8_isRoundBy 15 = .ok (.invokevirtual 212, 3) := by decide +kernel
theorem dX8_isRoundBy_18 : decode cX8_isRoundBy 18 = .ok (.if_icmp .ge 7, 3) := by decide +kernel
theorem dX8_isRoundBy_21 : decode cX8_isRoundBy 21 = .ok (.iconst 1, 1) := by decide +kernel
theorem dX8_isRoundBy_22 : decode cX8_isRoundBy 22 = .ok (.goto 4, 3) := by decide +kernel
theorem dX8_isRoundBy_25 : decode cX8_isRoundBy 25 = .ok (.iconst 0, 1) := by decide +kernel
theorem dX8_isRoundBy_26 : decode cX8_isRoundBy 26 = .ok (.ireturn, 1) := by decide +kernel
theorem f_m_byTaking_rows : True := trivial
theorem dX8_byTaking_0 : decode cX8_byTaking 0 = .ok (.aload_n 0, 1) := by decide +kernel
theorem dX8_byTaking_1 : decode cX8_byTaking 1 = .ok (.iload_n 1, 1) := by decide +kernel
theorem dX8_byTaking_2 : decode cX8_byTaking 2 = .ok (.aload_n 0, 1) := by decide +kernel
theorem dX8_byTaking_3 : decode cX8_byTaking 3 = .ok (.iload_n 1, 1) := by decide +kernel
theorem dX8_byTaking_4 : decode cX8_byTaking 4 = .ok (.iload_n 2, 1) := by decide +kernel
theorem dX8_byTaking_5 : decode cX8_byTaking 5 = .ok (.iload_n 3, 1) := by decide +kernel
theorem dX8_byTaking_6 : decode cX8_byTaking 6 = .ok (.invokevirtual 223, 3) := by decide +kernel
theorem dX8_byTaking_9 : decode cX8_byTaking 9 = .ok (.aload_n 0, 1) := by decide +kernel
theorem dX8_byTaking_10 : decode cX8_byTaking 10 = .ok (.getfield 7, 3) := by decide +kernel
theorem dX8_byTaking_13 : decode cX8_byTaking 13 = .ok (.iload_n 1, 1) := by decide +kernel
theorem dX8_byTaking_14 : decode cX8_byTaking 14 = .ok (.iaload, 1) := by decide +kernel
theorem dX8_byTaking_15 : decode cX8_byTaking 15 = .ok (.iadd, 1) := by decide +kernel
theorem dX8_byTaking_16 : decode cX8_byTaking 16 = .ok (.iload_n 3, 1) := by decide +kernel
theorem dX8_byTaking_17 : decode cX8_byTaking 17 = .ok (.isub, 1) := by decide +kernel
theorem dX8_byTaking_18 : decode cX8_byTaking 18 = .ok (.invokevirtual 227, 3) := by decide +kernel
theorem dX8_byTaking_21 : decode cX8_byTaking 21 = .ok (.ifCond .le 7, 3) := by decide +kernel
theorem dX8_byTaking_24 : decode cX8_byTaking 24 = .ok (.iconst 1, 1) := by decide +kernel
theorem dX8_byTaking_25 : decode cX8_byTaking 25 = .ok (.goto 4, 3) := by decide +kernel
theorem dX8_byTaking_28 : decode cX8_byTaking 28 = .ok (.iconst 0, 1) := by decide +kernel
theorem dX8_byTaking_29 : decode cX8_byTaking 29 = .ok (.istore 5, 2) := by decide +kernel
theorem dX8_byTaking_31 : decode cX8_byTaking 31 = .ok (.iload 4, 2) := by decide +kernel
theorem dX8_byTaking_33 : decode cX8_byTaking 33 = .ok (.ifCond .ne 13, 3) := by decide +kernel
theorem dX8_byTaking_36 : decode cX8_byTaking 36 = .ok (.aload_n 0, 1) := by decide +kernel
theorem dX8_byTaking_37 : decode cX8_byTaking 37 = .ok (.iload_n 1, 1) := by decide +kernel
theorem dX8_byTaking_38 : decode cX8_byTaking 38 = .ok (.iload_n 2, 1) := by decide +kernel
theorem dX8_byTaking_39 : decode cX8_byTaking 39 = .ok (.iload_n 3, 1) := by decide +kernel
theorem dX8_byTaking_40 : decode cX8_byTaking 40 = .ok (.invokevirtual 237, 3) := by decide +kernel
theorem dX8_byTaking_43 : decode cX8_byTaking 43 = .ok (.goto 21, 3) := by decide +kernel
theorem dX8_byTaking_46 : decode cX8_byTaking 46 = .ok (.iload 4, 2) := by decide +kernel
theorem dX8_byTaking_48 : decode cX8_byTaking 48 = .ok (.iconst 1, 1) := by decide +kernel
theorem dX8_byTaking_49 : decode cX8_byTaking 49 = .ok (.if_icmp .ne 14, 3) := by decide +kernel
theorem dX8_byTaking_52 : decode cX8_byTaking 52 = .ok (.iload 5, 2) := by decide +kernel
theorem dX8_byTaking_54 : decode cX8_byTaking 54 = .ok (.ifCond .eq 9, 3) := by decide +kernel
theorem dX8_byTaking_57 : decode cX8_byTaking 57 = .ok (.ldc_w 285, 3) := by decide +kernel
theorem dX8_byTaking_60 : decode cX8_byTaking 60 = .ok (.goto 4, 3) := by decide +kernel
theorem dX8_byTaking_63 : decode cX8_byTaking 63 = .ok (.iconst 0, 1) := by decide +kernel
theorem dX8_byTaking_64 : decode cX8_byTaking 64 = .ok (.ireturn, 1) := by decide +kernel
theorem f_m_byGarage_rows : True := trivial
theorem dX8_byGarage_0 : decode cX8_byGarage 0 = .ok (.aload_n 0, 1) := by decide +kernel
theorem dX8_byGarage_1 : decode cX8_byGarage 1 = .ok (.iload_n 1, 1) := by decide +kernel
theorem dX8_byGarage_2 : decode cX8_byGarage 2 = .ok (.aload_n 0, 1) := by decide +kernel
theorem dX8_byGarage_3 : decode cX8_byGarage 3 = .ok (.iload_n 1, 1) := by decide +kernel
theorem dX8_byGarage_4 : decode cX8_byGarage 4 = .ok (.iload_n 2, 1) := by decide +kernel
theorem dX8_byGarage_5 : decode cX8_byGarage 5 = .ok (.aload_n 0, 1) := by decide +kernel
theorem dX8_byGarage_6 : decode cX8_byGarage 6 = .ok (.getfield 7, 3) := by decide +kernel
theorem dX8_byGarage_9 : decode cX8_byGarage 9 = .ok (.iload_n 1, 1) := by decide +kernel
theorem dX8_byGarage_10 : decode cX8_byGarage 10 = .ok (.iaload, 1) := by decide +kernel
theorem dX8_byGarage_11 : decode cX8_byGarage 11 = .ok (.invokevirtual 223, 3) := by decide +kernel
theorem dX8_byGarage_14 : decode cX8_byGarage 14 = .ok (.invokevirtual 227, 3) := by decide +kernel
theorem dX8_byGarage_17 : decode cX8_byGarage 17 = .ok (.ifCond .le 7, 3) := by decide +kernel
theorem dX8_byGarage_20 : decode cX8_byGarage 20 = .ok (.iconst 1, 1) := by decide +kernel
theorem dX8_byGarage_21 : decode cX8_byGarage 21 = .ok (.goto 4, 3) := by decide +kernel
theorem dX8_byGarage_24 : decode cX8_byGarage 24 = .ok (.iconst 0, 1) := by decide +kernel
theorem dX8_byGarage_25 : decode cX8_byGarage 25 = .ok (.istore 4, 2) := by decide +kernel
theorem dX8_byGarage_27 : decode cX8_byGarage 27 = .ok (.iload_n 3, 1) := by decide +kernel
theorem dX8_byGarage_28 : decode cX8_byGarage 28 = .ok (.ifCond .ne 12, 3) := by decide +kernel
theorem dX8_byGarage_31 : decode cX8_byGarage 31 = .ok (.aload_n 0, 1) := by decide +kernel
theorem dX8_byGarage_32 : decode cX8_byGarage 32 = .ok (.iload_n 1, 1) := by decide +kernel
theorem dX8_byGarage_33 : decode cX8_byGarage 33 = .ok (.iload_n 2, 1) := by decide +kernel
theorem dX8_byGarage_34 : decode cX8_byGarage 34 = .ok (.invokevirtual 248, 3) := by decide +kernel
theorem dX8_byGarage_37 : decode cX8_byGarage 37 = .ok (.goto 20, 3) := by decide +kernel
theorem dX8_byGarage_40 : decode cX8_byGarage 40 = .ok (.iload_n 3, 1) := by decide +kernel
theorem dX8_byGarage_41 : decode cX8_byGarage 41 = .ok (.iconst 2, 1) := by decide +kernel
theorem dX8_byGarage_42 : decode cX8_byGarage 42 = .ok (.if_icmp .eq 8, 3) := by decide +kernel
theorem dX8_byGarage_45 : decode cX8_byGarage 45 = .ok (.iload 4, 2) := by decide +kernel
theorem dX8_byGarage_47 : decode cX8_byGarage 47 = .ok (.ifCond .eq 9, 3) := by decide +kernel
theorem dX8_byGarage_50 : decode cX8_byGarage 50 = .ok (.ldc_w 285, 3) := by decide +kernel
theorem dX8_byGarage_53 : decode cX8_byGarage 53 = .ok (.goto 4, 3) := by decide +kernel
theorem dX8_byGarage_56 : decode cX8_byGarage 56 = .ok (.iconst 0, 1) := by decide +kernel
theorem dX8_byGarage_57 : decode cX8_byGarage 57 = .ok (.ireturn, 1) := by decide +kernel
theorem f_m_meanOf_rows : True := trivial
theorem dX8_meanOf_0 : decode cX8_meanOf 0 = .ok (.aload_n 0, 1) := by decide +kernel
theorem dX8_meanOf_1 : decode cX8_meanOf 1 = .ok (.getfield 7, 3) := by decide +kernel
theorem dX8_meanOf_4 : decode cX8_meanOf 4 = .ok (.iload_n 1, 1) := by decide +kernel
theorem dX8_meanOf_5 : decode cX8_meanOf 5 = .ok (.iaload, 1) := by decide +kernel
theorem dX8_meanOf_6 : decode cX8_meanOf 6 = .ok (.istore 4, 2) := by decide +kernel
theorem dX8_meanOf_8 : decode cX8_meanOf 8 = .ok (.iload_n 3, 1) := by decide +kernel
theorem dX8_meanOf_9 : decode cX8_meanOf 9 = .ok (.ifCond .ne 16, 3) := by decide +kernel
theorem dX8_meanOf_12 : decode cX8_meanOf 12 = .ok (.aload_n 0, 1) := by decide +kernel
theorem dX8_meanOf_13 : decode cX8_meanOf 13 = .ok (.iload_n 1, 1) := by decide +kernel
theorem dX8_meanOf_14 : decode cX8_meanOf 14 = .ok (.iconst 2, 1) := by decide +kernel
theorem dX8_meanOf_15 : decode cX8_meanOf 15 = .ok (.invokevirtual 212, 3) := by decide +kernel
theorem dX8_meanOf_18 : decode cX8_meanOf 18 = .ok (.sipush 1000, 3) := by decide +kernel
theorem dX8_meanOf_21 : decode cX8_meanOf 21 = .ok (.imul, 1) := by decide +kernel
theorem dX8_meanOf_22 : decode cX8_meanOf 22 = .ok (.goto 4, 3) := by decide +kernel
theorem dX8_meanOf_25 : decode cX8_meanOf 25 = .ok (.iconst 0, 1) := by decide +kernel
theorem dX8_meanOf_26 : decode cX8_meanOf 26 = .ok (.istore 5, 2) := by decide +kernel
theorem dX8_meanOf_28 : decode cX8_meanOf 28 = .ok (.iconst 0, 1) := by decide +kernel
theorem dX8_meanOf_29 : decode cX8_meanOf 29 = .ok (.istore 6, 2) := by decide +kernel
theorem dX8_meanOf_31 : decode cX8_meanOf 31 = .ok (.iconst 3, 1) := by decide +kernel
theorem dX8_meanOf_32 : decode cX8_meanOf 32 = .ok (.istore 7, 2) := by decide +kernel
theorem dX8_meanOf_34 : decode cX8_meanOf 34 = .ok (.iload 7, 2) := by decide +kernel
theorem dX8_meanOf_36 : decode cX8_meanOf 36 = .ok (.ifCond .lt 253, 3) := by decide +kernel
theorem dX8_meanOf_39 : decode cX8_meanOf 39 = .ok (.iload_n 3, 1) := by decide +kernel
theorem dX8_meanOf_40 : decode cX8_meanOf 40 = .ok (.ifCond .ne 24, 3) := by decide +kernel
theorem dX8_meanOf_43 : decode cX8_meanOf 43 = .ok (.aload_n 0, 1) := by decide +kernel
theorem dX8_meanOf_44 : decode cX8_meanOf 44 = .ok (.iload_n 1, 1) := by decide +kernel
theorem dX8_meanOf_45 : decode cX8_meanOf 45 = .ok (.iconst 2, 1) := by decide +kernel
theorem dX8_meanOf_46 : decode cX8_meanOf 46 = .ok (.invokevirtual 212, 3) := by decide +kernel
theorem dX8_meanOf_49 : decode cX8_meanOf 49 = .ok (.aload_n 0, 1) := by decide +kernel
theorem dX8_meanOf_50 : decode cX8_meanOf 50 = .ok (.iload_n 1, 1) := by decide +kernel
theorem dX8_meanOf_51 : decode cX8_meanOf 51 = .ok (.bipush 6, 2) := by decide +kernel
theorem dX8_meanOf_53 : decode cX8_meanOf 53 = .ok (.invokevirtual 212, 3) := by decide +kernel
theorem dX8_meanOf_56 : decode cX8_meanOf 56 = .ok (.imul, 1) := by decide +kernel
theorem dX8_meanOf_57 : decode cX8_meanOf 57 = .ok (.sipush 1000, 3) := by decide +kernel
theorem dX8_meanOf_60 : decode cX8_meanOf 60 = .ok (.imul, 1) := by decide +kernel
theorem dX8_meanOf_61 : decode cX8_meanOf 61 = .ok (.goto 4, 3) := by decide +kernel
theorem dX8_meanOf_64 : decode cX8_meanOf 64 = .ok (.iconst 0, 1) := by decide +kernel
theorem dX8_meanOf_65 : decode cX8_meanOf 65 = .ok (.istore 8, 2) := by decide +kernel
theorem dX8_meanOf_67 : decode cX8_meanOf 67 = .ok (.aload_n 0, 1) := by decide +kernel
theorem dX8_meanOf_68 : decode cX8_meanOf 68 = .ok (.iload_n 1, 1) := by decide +kernel
theorem dX8_meanOf_69 : decode cX8_meanOf 69 = .ok (.iload_n 2, 1) := by decide +kernel
theorem dX8_meanOf_70 : decode cX8_meanOf 70 = .ok (.iload 7, 2) := by decide +kernel
theorem dX8_meanOf_72 : decode cX8_meanOf 72 = .ok (.invokevirtual 286, 3) := by decide +kernel
theorem dX8_meanOf_75 : decode cX8_meanOf 75 = .ok (.ifCond .eq 11, 3) := by decide +kernel
theorem dX8_meanOf_78 : decode cX8_meanOf 78 = .ok (.iload 8, 2) := by decide +kernel
theorem dX8_meanOf_80 : decode cX8_meanOf 80 = .ok (.iload 6, 2) := by decide +kernel
theorem dX8_meanOf_82 : decode cX8_meanOf 82 = .ok (.iadd, 1) := by decide +kernel
theorem dX8_meanOf_83 : decode cX8_meanOf 83 = .ok (.goto 11, 3) := by decide +kernel
theorem dX8_meanOf_86 : decode cX8_meanOf 86 = .ok (.aload_n 0, 1) := by decide +kernel
theorem dX8_meanOf_87 : decode cX8_meanOf 87 = .ok (.iload_n 1, 1) := by decide +kernel
theorem dX8_meanOf_88 : decode cX8_meanOf 88 = .ok (.iload 7, 2) := by decide +kernel
theorem dX8_meanOf_90 : decode cX8_meanOf 90 = .ok (.iload_n 3, 1) := by decide +kernel
theorem dX8_meanOf_91 : decode cX8_meanOf 91 = .ok (.invokevirtual 289, 3) := by decide +kernel
theorem dX8_meanOf_94 : decode cX8_meanOf 94 = .ok (.istore 9, 2) := by decide +kernel
theorem dX8_meanOf_96 : decode cX8_meanOf 96 = .ok (.iconst 0, 1) := by decide +kernel
theorem dX8_meanOf_97 : decode cX8_meanOf 97 = .ok (.istore 10, 2) := by decide +kernel
theorem dX8_meanOf_99 : decode cX8_meanOf 99 = .ok (.iload 10, 2) := by decide +kernel
theorem dX8_meanOf_101 : decode cX8_meanOf 101 = .ok (.bipush 52, 2) := by decide +kernel
theorem dX8_meanOf_103 : decode cX8_meanOf 103 = .ok (.if_icmp .ge 18, 3) := by decide +kernel
theorem dX8_meanOf_106 : decode cX8_meanOf 106 = .ok (.aload_n 0, 1) := by decide +kernel
theorem dX8_meanOf_107 : decode cX8_meanOf 107 = .ok (.getfield 69, 3) := by decide +kernel
theorem dX8_meanOf_110 : decode cX8_meanOf 110 = .ok (.iload 10, 2) := by decide +kernel
theorem dX8_meanOf_112 : decode cX8_meanOf 112 = .ok (.iload 9, 2) := by decide +kernel
theorem dX8_meanOf_114 : decode cX8_meanOf 114 = .ok (.iastore, 1) := by decide +kernel
theorem dX8_meanOf_115 : decode cX8_meanOf 115 = .ok (.iinc 10 1, 3) := by decide +kernel
theorem dX8_meanOf_118 : decode cX8_meanOf 118 = .ok (.goto (-19), 3) := by decide +kernel
theorem dX8_meanOf_121 : decode cX8_meanOf 121 = .ok (.iload 4, 2) := by decide +kernel
theorem dX8_meanOf_123 : decode cX8_meanOf 123 = .ok (.iconst 1, 1) := by decide +kernel
theorem dX8_meanOf_124 : decode cX8_meanOf 124 = .ok (.isub, 1) := by decide +kernel
theorem dX8_meanOf_125 : decode cX8_meanOf 125 = .ok (.istore 10, 2) := by decide +kernel
theorem dX8_meanOf_127 : decode cX8_meanOf 127 = .ok (.iload 10, 2) := by decide +kernel
theorem dX8_meanOf_129 : decode cX8_meanOf 129 = .ok (.ifCond .lt 146, 3) := by decide +kernel
theorem dX8_meanOf_132 : decode cX8_meanOf 132 = .ok (.iconst 0, 1) := by decide +kernel
theorem dX8_meanOf_133 : decode cX8_meanOf 133 = .ok (.istore 11, 2) := by decide +kernel
theorem dX8_meanOf_135 : decode cX8_meanOf 135 = .ok (.iload 11, 2) := by decide +kernel
theorem dX8_meanOf_137 : decode cX8_meanOf 137 = .ok (.bipush 50, 2) := by decide +kernel
theorem dX8_meanOf_139 : decode cX8_meanOf 139 = .ok (.if_icmp .ge 100, 3) := by decide +kernel
theorem dX8_meanOf_142 : decode cX8_meanOf 142 = .ok (.iload 11, 2) := by decide +kernel
theorem dX8_meanOf_144 : decode cX8_meanOf 144 = .ok (.iconst 2, 1) := by decide +kernel
theorem dX8_meanOf_145 : decode cX8_meanOf 145 = .ok (.idiv, 1) := by decide +kernel
theorem dX8_meanOf_146 : decode cX8_meanOf 146 = .ok (.istore 12, 2) := by decide +kernel
theorem dX8_meanOf_148 : decode cX8_meanOf 148 = .ok (.aload_n 0, 1) := by decide +kernel
theorem dX8_meanOf_149 : decode cX8_meanOf 149 = .ok (.iload_n 2, 1) := by decide +kernel
theorem dX8_meanOf_150 : decode cX8_meanOf 150 = .ok (.iload 10, 2) := by decide +kernel
theorem dX8_meanOf_152 : decode cX8_meanOf 152 = .ok (.iload 12, 2) := by decide +kernel
theorem dX8_meanOf_154 : decode cX8_meanOf 154 = .ok (.invokevirtual 292, 3) := by decide +kernel
theorem dX8_meanOf_157 : decode cX8_meanOf 157 = .ok (.ifCond .eq 16, 3) := by decide +kernel
theorem dX8_meanOf_160 : decode cX8_meanOf 160 = .ok (.aload_n 0, 1) := by decide +kernel
theorem dX8_meanOf_161 : decode cX8_meanOf 161 = .ok (.iload_n 1, 1) := by decide +kernel
theorem dX8_meanOf_162 : decode cX8_meanOf 162 = .ok (.iload 7, 2) := by decide +kernel
theorem dX8_meanOf_164 : decode cX8_meanOf 164 = .ok (.iload 10, 2) := by decide +kernel
theorem dX8_meanOf_166 : decode cX8_meanOf 166 = .ok (.iload_n 3, 1) := by decide +kernel
theorem dX8_meanOf_167 : decode cX8_meanOf 167 = .ok (.invokevirtual 295, 3) := by decide +kernel
theorem dX8_meanOf_170 : decode cX8_meanOf 170 = .ok (.goto 17, 3) := by decide +kernel
theorem dX8_meanOf_173 : decode cX8_meanOf 173 = .ok (.iload 5, 2) := by decide +kernel
theorem dX8_meanOf_175 : decode cX8_meanOf 175 = .ok (.aload_n 0, 1) := by decide +kernel
theorem dX8_meanOf_176 : decode cX8_meanOf 176 = .ok (.getfield 69, 3) := by decide +kernel
theorem dX8_meanOf_179 : decode cX8_meanOf 179 = .ok (.iconst 2, 1) := by decide +kernel
theorem dX8_meanOf_180 : decode cX8_meanOf 180 = .ok (.iload 12, 2) := by decide +kernel
theorem dX8_meanOf_182 : decode cX8_meanOf 182 = .ok (.imul, 1) := by decide +kernel
theorem dX8_meanOf_183 : decode cX8_meanOf 183 = .ok (.iconst 3, 1) := by decide +kernel
theorem dX8_meanOf_184 : decode cX8_meanOf 184 = .ok (.iadd, 1) := by decide +kernel
theorem dX8_meanOf_185 : decode cX8_meanOf 185 = .ok (.iaload, 1) := by decide +kernel
theorem dX8_meanOf_186 : decode cX8_meanOf 186 = .ok (.iadd, 1) := by decide +kernel
theorem dX8_meanOf_187 : decode cX8_meanOf 187 = .ok (.istore 13, 2) := by decide +kernel
theorem dX8_meanOf_189 : decode cX8_meanOf 189 = .ok (.aload_n 0, 1) := by decide +kernel
theorem dX8_meanOf_190 : decode cX8_meanOf 190 = .ok (.getfield 72, 3) := by decide +kernel
theorem dX8_meanOf_193 : decode cX8_meanOf 193 = .ok (.iload 11, 2) := by decide +kernel
theorem dX8_meanOf_195 : decode cX8_meanOf 195 = .ok (.aload_n 0, 1) := by decide +kernel
theorem dX8_meanOf_196 : decode cX8_meanOf 196 = .ok (.iload_n 1, 1) := by decide +kernel
theorem dX8_meanOf_197 : decode cX8_meanOf 197 = .ok (.iload 10, 2) := by decide +kernel
theorem dX8_meanOf_199 : decode cX8_meanOf 199 = .ok (.iload 11, 2) := by decide +kernel
theorem dX8_meanOf_201 : decode cX8_meanOf 201 = .ok (.iconst 2, 1) := by decide +kernel
theorem dX8_meanOf_202 : decode cX8_meanOf 202 = .ok (.irem, 1) := by decide +kernel
theorem dX8_meanOf_203 : decode cX8_meanOf 203 = .ok (.iconst 1, 1) := by decide +kernel
theorem dX8_meanOf_204 : decode cX8_meanOf 204 = .ok (.if_icmp .ne 7, 3) := by decide +kernel
theorem dX8_meanOf_207 : decode cX8_meanOf 207 = .ok (.iconst 1, 1) := by decide +kernel
theorem dX8_meanOf_208 : decode cX8_meanOf 208 = .ok (.goto 4, 3) := by decide +kernel
theorem dX8_meanOf_211 : decode cX8_meanOf 211 = .ok (.iconst 0, 1) := by decide +kernel
theorem dX8_meanOf_212 : decode cX8_meanOf 212 = .ok (.invokevirtual 219, 3) := by decide +kernel
theorem dX8_meanOf_215 : decode cX8_meanOf 215 = .ok (.iload 13, 2) := by decide +kernel
theorem dX8_meanOf_217 : decode cX8_meanOf 217 = .ok (.iload 5, 2) := by decide +kernel
theorem dX8_meanOf_219 : decode cX8_meanOf 219 = .ok (.aload_n 0, 1) := by decide +kernel
theorem dX8_meanOf_220 : decode cX8_meanOf 220 = .ok (.getfield 69, 3) := by decide +kernel
theorem dX8_meanOf_223 : decode cX8_meanOf 223 = .ok (.iconst 2, 1) := by decide +kernel
theorem dX8_meanOf_224 : decode cX8_meanOf 224 = .ok (.iload 12, 2) := by decide +kernel
theorem dX8_meanOf_226 : decode cX8_meanOf 226 = .ok (.imul, 1) := by decide +kernel
theorem dX8_meanOf_227 : decode cX8_meanOf 227 = .ok (.iaload, 1) := by decide +kernel
theorem dX8_meanOf_228 : decode cX8_meanOf 228 = .ok (.iadd, 1) := by decide +kernel
theorem dX8_meanOf_229 : decode cX8_meanOf 229 = .ok (.invokestatic 245, 3) := by decide +kernel
theorem dX8_meanOf_232 : decode cX8_meanOf 232 = .ok (.iastore, 1) := by decide +kernel
theorem dX8_meanOf_233 : decode cX8_meanOf 233 = .ok (.iinc 11 1, 3) := by decide +kernel
theorem dX8_meanOf_236 : decode cX8_meanOf 236 = .ok (.goto (-101), 3) := by decide +kernel
theorem dX8_meanOf_239 : decode cX8_meanOf 239 = .ok (.iconst 0, 1) := by decide +kernel
theorem dX8_meanOf_240 : decode cX8_meanOf 240 = .ok (.istore 11, 2) := by decide +kernel
theorem dX8_meanOf_242 : decode cX8_meanOf 242 = .ok (.iload 11, 2) := by decide +kernel
theorem dX8_meanOf_244 : decode cX8_meanOf 244 = .ok (.bipush 50, 2) := by decide +kernel
theorem dX8_meanOf_246 : decode cX8_meanOf 246 = .ok (.if_icmp .ge 23, 3) := by decide +kernel
theorem dX8_meanOf_249 : decode cX8_meanOf 249 = .ok (.aload_n 0, 1) := by decide +kernel
theorem dX8_meanOf_250 : decode cX8_meanOf 250 = .ok (.getfield 69, 3) := by decide +kernel
theorem dX8_meanOf_253 : decode cX8_meanOf 253 = .ok (.iload 11, 2) := by decide +kernel
theorem dX8_meanOf_255 : decode cX8_meanOf 255 = .ok (.aload_n 0, 1) := by decide +kernel
theorem dX8_meanOf_256 : decode cX8_meanOf 256 = .ok (.getfield 72, 3) := by decide +kernel
theorem dX8_meanOf_259 : decode cX8_meanOf 259 = .ok (.iload 11, 2) := by decide +kernel
theorem dX8_meanOf_261 : decode cX8_meanOf 261 = .ok (.iaload, 1) := by decide +kernel
theorem dX8_meanOf_262 : decode cX8_meanOf 262 = .ok (.iastore, 1) := by decide +kernel
theorem dX8_meanOf_263 : decode cX8_meanOf 263 = .ok (.iinc 11 1, 3) := by decide +kernel
theorem dX8_meanOf_266 : decode cX8_meanOf 266 = .ok (.goto (-24), 3) := by decide +kernel
theorem dX8_meanOf_269 : decode cX8_meanOf 269 = .ok (.iinc 10 (-1), 3) := by decide +kernel
theorem dX8_meanOf_272 : decode cX8_meanOf 272 = .ok (.goto (-145), 3) := by decide +kernel
theorem dX8_meanOf_275 : decode cX8_meanOf 275 = .ok (.aload_n 0, 1) := by decide +kernel
theorem dX8_meanOf_276 : decode cX8_meanOf 276 = .ok (.getfield 69, 3) := by decide +kernel
theorem dX8_meanOf_279 : decode cX8_meanOf 279 = .ok (.iconst 0, 1) := by decide +kernel
theorem dX8_meanOf_280 : decode cX8_meanOf 280 = .ok (.iaload, 1) := by decide +kernel
theorem dX8_meanOf_281 : decode cX8_meanOf 281 = .ok (.istore 6, 2) := by decide +kernel
theorem dX8_meanOf_283 : decode cX8_meanOf 283 = .ok (.iinc 7 (-1), 3) := by decide +kernel
theorem dX8_meanOf_286 : decode cX8_meanOf 286 = .ok (.goto (-252), 3) := by decide +kernel
theorem dX8_meanOf_289 : decode cX8_meanOf 289 = .ok (.iload 6, 2) := by decide +kernel
theorem dX8_meanOf_291 : decode cX8_meanOf 291 = .ok (.ireturn, 1) := by decide +kernel
theorem f_m_mean_rows : True := trivial
theorem dX8_mean_0 : decode cX8_mean 0 = .ok (.aload_n 0, 1) := by decide +kernel
theorem dX8_mean_1 : decode cX8_mean 1 = .ok (.iload_n 1, 1) := by decide +kernel
theorem dX8_mean_2 : decode cX8_mean 2 = .ok (.invokevirtual 206, 3) := by decide +kernel
theorem dX8_mean_5 : decode cX8_mean 5 = .ok (.ifCond .eq 11, 3) := by decide +kernel
theorem dX8_mean_8 : decode cX8_mean 8 = .ok (.aload_n 0, 1) := by decide +kernel
theorem dX8_mean_9 : decode cX8_mean 9 = .ok (.iload_n 2, 1) := by decide +kernel
theorem dX8_mean_10 : decode cX8_mean 10 = .ok (.invokevirtual 298, 3) := by decide +kernel
theorem dX8_mean_13 : decode cX8_mean 13 = .ok (.ifCond .ne 7, 3) := by decide +kernel
theorem dX8_mean_16 : decode cX8_mean 16 = .ok (.sipush (-1001), 3) := by decide +kernel
theorem dX8_mean_19 : decode cX8_mean 19 = .ok (.ireturn, 1) := by decide +kernel
theorem dX8_mean_20 : decode cX8_mean 20 = .ok (.iload_n 3, 1) := by decide +kernel
theorem dX8_mean_21 : decode cX8_mean 21 = .ok (.i2l, 1) := by decide +kernel
theorem dX8_mean_22 : decode cX8_mean 22 = .ok (.lconst 0, 1) := by decide +kernel
theorem dX8_mean_23 : decode cX8_mean 23 = .ok (.ldc2_w 105, 3) := by decide +kernel
theorem dX8_mean_26 : decode cX8_mean 26 = .ok (.invokestatic 107, 3) := by decide +kernel
theorem dX8_mean_29 : decode cX8_mean 29 = .ok (.ifCond .eq 13, 3) := by decide +kernel
theorem dX8_mean_32 : decode cX8_mean 32 = .ok (.aload_n 0, 1) := by decide +kernel
theorem dX8_mean_33 : decode cX8_mean 33 = .ok (.iload_n 1, 1) := by decide +kernel
theorem dX8_mean_34 : decode cX8_mean 34 = .ok (.iload_n 2, 1) := by decide +kernel
theorem dX8_mean_35 : decode cX8_mean 35 = .ok (.iload_n 3, 1) := by decide +kernel
theorem dX8_mean_36 : decode cX8_mean 36 = .ok (.invokevirtual 301, 3) := by decide +kernel
theorem dX8_mean_39 : decode cX8_mean 39 = .ok (.goto 6, 3) := by decide +kernel
theorem dX8_mean_42 : decode cX8_mean 42 = .ok (.sipush (-1002), 3) := by decide +kernel
theorem dX8_mean_45 : decode cX8_mean 45 = .ok (.ireturn, 1) := by decide +kernel
theorem f_m_drive_rows : True := trivial
theorem dX8_drive_0 : decode cX8_drive 0 = .ok (.aload_n 0, 1) := by decide +kernel
theorem dX8_drive_1 : decode cX8_drive 1 = .ok (.getfield 7, 3) := by decide +kernel
theorem dX8_drive_4 : decode cX8_drive 4 = .ok (.iload_n 1, 1) := by decide +kernel
theorem dX8_drive_5 : decode cX8_drive 5 = .ok (.iaload, 1) := by decide +kernel
theorem dX8_drive_6 : decode cX8_drive 6 = .ok (.istore_n 3, 1) := by decide +kernel
theorem dX8_drive_7 : decode cX8_drive 7 = .ok (.iconst 0, 1) := by decide +kernel
theorem dX8_drive_8 : decode cX8_drive 8 = .ok (.istore 4, 2) := by decide +kernel
theorem dX8_drive_10 : decode cX8_drive 10 = .ok (.iconst 0, 1) := by decide +kernel
theorem dX8_drive_11 : decode cX8_drive 11 = .ok (.istore 5, 2) := by decide +kernel
theorem dX8_drive_13 : decode cX8_drive 13 = .ok (.iconst 0, 1) := by decide +kernel
theorem dX8_drive_14 : decode cX8_drive 14 = .ok (.istore 6, 2) := by decide +kernel
theorem dX8_drive_16 : decode cX8_drive 16 = .ok (.iconst 0, 1) := by decide +kernel
theorem dX8_drive_17 : decode cX8_drive 17 = .ok (.istore 7, 2) := by decide +kernel
theorem dX8_drive_19 : decode cX8_drive 19 = .ok (.iconst 0, 1) := by decide +kernel
theorem dX8_drive_20 : decode cX8_drive 20 = .ok (.istore 8, 2) := by decide +kernel
theorem dX8_drive_22 : decode cX8_drive 22 = .ok (.iload 6, 2) := by decide +kernel
theorem dX8_drive_24 : decode cX8_drive 24 = .ok (.iload_n 3, 1) := by decide +kernel
theorem dX8_drive_25 : decode cX8_drive 25 = .ok (.if_icmp .ne 57, 3) := by decide +kernel
theorem dX8_drive_28 : decode cX8_drive 28 = .ok (.aload_n 0, 1) := by decide +kernel
theorem dX8_drive_29 : decode cX8_drive 29 = .ok (.iload_n 1, 1) := by decide +kernel
theorem dX8_drive_30 : decode cX8_drive 30 = .ok (.iload_n 2, 1) := by decide +kernel
theorem dX8_drive_31 : decode cX8_drive 31 = .ok (.iload 5, 2) := by decide +kernel
theorem dX8_drive_33 : decode cX8_drive 33 = .ok (.invokevirtual 286, 3) := by decide +kernel
theorem dX8_drive_36 : decode cX8_drive 36 = .ok (.ifCond .ne 14, 3) := by decide +kernel
theorem dX8_drive_39 : decode cX8_drive 39 = .ok (.iload 4, 2) := by decide +kernel
theorem dX8_drive_41 : decode cX8_drive 41 = .ok (.aload_n 0, 1) := by decide +kernel
theorem dX8_drive_42 : decode cX8_drive 42 = .ok (.iload_n 1, 1) := by decide +kernel
theorem dX8_drive_43 : decode cX8_drive 43 = .ok (.iload 5, 2) := by decide +kernel
theorem dX8_drive_45 : decode cX8_drive 45 = .ok (.invokevirtual 248, 3) := by decide +kernel
theorem dX8_drive_48 : decode cX8_drive 48 = .ok (.iadd, 1) := by decide +kernel
theorem dX8_drive_49 : decode cX8_drive 49 = .ok (.ireturn, 1) := by decide +kernel
theorem dX8_drive_50 : decode cX8_drive 50 = .ok (.iload 4, 2) := by decide +kernel
theorem dX8_drive_52 : decode cX8_drive 52 = .ok (.aload_n 0, 1) := by decide +kernel
theorem dX8_drive_53 : decode cX8_drive 53 = .ok (.iload_n 1, 1) := by decide +kernel
theorem dX8_drive_54 : decode cX8_drive 54 = .ok (.iconst 2, 1) := by decide +kernel
theorem dX8_drive_55 : decode cX8_drive 55 = .ok (.invokevirtual 212, 3) := by decide +kernel
theorem dX8_drive_58 : decode cX8_drive 58 = .ok (.aload_n 0, 1) := by decide +kernel
theorem dX8_drive_59 : decode cX8_drive 59 = .ok (.iload_n 1, 1) := by decide +kernel
theorem dX8_drive_60 : decode cX8_drive 60 = .ok (.bipush 6, 2) := by decide +kernel
theorem dX8_drive_62 : decode cX8_drive 62 = .ok (.invokevirtual 212, 3) := by decide +kernel
theorem dX8_drive_65 : decode cX8_drive 65 = .ok (.imul, 1) := by decide +kernel
theorem dX8_drive_66 : decode cX8_drive 66 = .ok (.sipush 1000, 3) := by decide +kernel
theorem dX8_drive_69 : decode cX8_drive 69 = .ok (.imul, 1) := by decide +kernel
theorem dX8_drive_70 : decode cX8_drive 70 = .ok (.iadd, 1) := by decide +kernel
theorem dX8_drive_71 : decode cX8_drive 71 = .ok (.istore 4, 2) := by decide +kernel
theorem dX8_drive_73 : decode cX8_drive 73 = .ok (.iinc 5 1, 3) := by decide +kernel
theorem dX8_drive_76 : decode cX8_drive 76 = .ok (.iconst 0, 1) := by decide +kernel
theorem dX8_drive_77 : decode cX8_drive 77 = .ok (.istore 6, 2) := by decide +kernel
theorem dX8_drive_79 : decode cX8_drive 79 = .ok (.iconst 0, 1) := by decide +kernel
theorem dX8_drive_80 : decode cX8_drive 80 = .ok (.istore 7, 2) := by decide +kernel
theorem dX8_drive_82 : decode cX8_drive 82 = .ok (.aload_n 0, 1) := by decide +kernel
theorem dX8_drive_83 : decode cX8_drive 83 = .ok (.invokevirtual 384, 3) := by decide +kernel
theorem dX8_drive_86 : decode cX8_drive 86 = .ok (.aload_n 0, 1) := by decide +kernel
theorem dX8_drive_87 : decode cX8_drive 87 = .ok (.iload_n 1, 1) := by decide +kernel
theorem dX8_drive_88 : decode cX8_drive 88 = .ok (.iload 6, 2) := by decide +kernel
theorem dX8_drive_90 : decode cX8_drive 90 = .ok (.iload 8, 2) := by decide +kernel
theorem dX8_drive_92 : decode cX8_drive 92 = .ok (.invokevirtual 219, 3) := by decide +kernel
theorem dX8_drive_95 : decode cX8_drive 95 = .ok (.if_icmp .ge 7, 3) := by decide +kernel
theorem dX8_drive_98 : decode cX8_drive 98 = .ok (.iconst 1, 1) := by decide +kernel
theorem dX8_drive_99 : decode cX8_drive 99 = .ok (.goto 4, 3) := by decide +kernel
theorem dX8_drive_102 : decode cX8_drive 102 = .ok (.iconst 0, 1) := by decide +kernel
theorem dX8_drive_103 : decode cX8_drive 103 = .ok (.istore 9, 2) := by decide +kernel
theorem dX8_drive_105 : decode cX8_drive 105 = .ok (.iload 9, 2) := by decide +kernel
theorem dX8_drive_107 : decode cX8_drive 107 = .ok (.ifCond .eq 28, 3) := by decide +kernel
theorem dX8_drive_110 : decode cX8_drive 110 = .ok (.aload_n 0, 1) := by decide +kernel
theorem dX8_drive_111 : decode cX8_drive 111 = .ok (.iload_n 2, 1) := by decide +kernel
theorem dX8_drive_112 : decode cX8_drive 112 = .ok (.iload 6, 2) := by decide +kernel
theorem dX8_drive_114 : decode cX8_drive 114 = .ok (.iload 7, 2) := by decide +kernel
theorem dX8_drive_116 : decode cX8_drive 116 = .ok (.invokevirtual 292, 3) := by decide +kernel
theorem dX8_drive_119 : decode cX8_drive 119 = .ok (.ifCond .eq 16, 3) := by decide +kernel
theorem dX8_drive_122 : decode cX8_drive 122 = .ok (.iload 4, 2) := by decide +kernel
theorem dX8_drive_124 : decode cX8_drive 124 = .ok (.aload_n 0, 1) := by decide +kernel
theorem dX8_drive_125 : decode cX8_drive 125 = .ok (.iload_n 1, 1) := by decide +kernel
theorem dX8_drive_126 : decode cX8_drive 126 = .ok (.iload 5, 2) := by decide +kernel
theorem dX8_drive_128 : decode cX8_drive 128 = .ok (.iload 6, 2) := by decide +kernel
theorem dX8_drive_130 : decode cX8_drive 130 = .ok (.invokevirtual 237, 3) := by decide +kernel
theorem dX8_drive_133 : decode cX8_drive 133 = .ok (.iadd, 1) := by decide +kernel
theorem dX8_drive_134 : decode cX8_drive 134 = .ok (.ireturn, 1) := by decide +kernel
theorem dX8_drive_135 : decode cX8_drive 135 = .ok (.iload 4, 2) := by decide +kernel
theorem dX8_drive_137 : decode cX8_drive 137 = .ok (.aload_n 0, 1) := by decide +kernel
theorem dX8_drive_138 : decode cX8_drive 138 = .ok (.iload_n 1, 1) := by decide +kernel
theorem dX8_drive_139 : decode cX8_drive 139 = .ok (.iconst 2, 1) := by decide +kernel
theorem dX8_drive_140 : decode cX8_drive 140 = .ok (.invokevirtual 212, 3) := by decide +kernel
theorem dX8_drive_143 : decode cX8_drive 143 = .ok (.sipush 1000, 3) := by decide +kernel
theorem dX8_drive_146 : decode cX8_drive 146 = .ok (.imul, 1) := by decide +kernel
theorem dX8_drive_147 : decode cX8_drive 147 = .ok (.iadd, 1) := by decide +kernel
theorem dX8_drive_148 : decode cX8_drive 148 = .ok (.istore 4, 2) := by decide +kernel
theorem dX8_drive_150 : decode cX8_drive 150 = .ok (.iload 7, 2) := by decide +kernel
theorem dX8_drive_152 : decode cX8_drive 152 = .ok (.iload 9, 2) := by decide +kernel
theorem dX8_drive_154 : decode cX8_drive 154 = .ok (.ifCond .eq 7, 3) := by decide +kernel
theorem dX8_drive_157 : decode cX8_drive 157 = .ok (.iconst 1, 1) := by decide +kernel
theorem dX8_drive_158 : decode cX8_drive 158 = .ok (.goto 4, 3) := by decide +kernel
theorem dX8_drive_161 : decode cX8_drive 161 = .ok (.iconst 0, 1) := by decide +kernel
theorem dX8_drive_162 : decode cX8_drive 162 = .ok (.iadd, 1) := by decide +kernel
theorem dX8_drive_163 : decode cX8_drive 163 = .ok (.istore 7, 2) := by decide +kernel
theorem dX8_drive_165 : decode cX8_drive 165 = .ok (.iload 9, 2) := by decide +kernel
theorem dX8_drive_167 : decode cX8_drive 167 = .ok (.istore 8, 2) := by decide +kernel
theorem dX8_drive_169 : decode cX8_drive 169 = .ok (.iinc 6 1, 3) := by decide +kernel
theorem dX8_drive_172 : decode cX8_drive 172 = .ok (.goto (-150), 3) := by decide +kernel
theorem f_m_evening_rows : True := trivial
theorem dX8_evening_0 : decode cX8_evening 0 = .ok (.aload_n 0, 1) := by decide +kernel
theorem dX8_evening_1 : decode cX8_evening 1 = .ok (.iload_n 1, 1) := by decide +kernel
theorem dX8_evening_2 : decode cX8_evening 2 = .ok (.invokevirtual 206, 3) := by decide +kernel
theorem dX8_evening_5 : decode cX8_evening 5 = .ok (.ifCond .eq 11, 3) := by decide +kernel
theorem dX8_evening_8 : decode cX8_evening 8 = .ok (.aload_n 0, 1) := by decide +kernel
theorem dX8_evening_9 : decode cX8_evening 9 = .ok (.iload_n 2, 1) := by decide +kernel
theorem dX8_evening_10 : decode cX8_evening 10 = .ok (.invokevirtual 298, 3) := by decide +kernel
theorem dX8_evening_13 : decode cX8_evening 13 = .ok (.ifCond .ne 7, 3) := by decide +kernel
theorem dX8_evening_16 : decode cX8_evening 16 = .ok (.sipush (-1001), 3) := by decide +kernel
theorem dX8_evening_19 : decode cX8_evening 19 = .ok (.ireturn, 1) := by decide +kernel
theorem dX8_evening_20 : decode cX8_evening 20 = .ok (.iload_n 3, 1) := by decide +kernel
theorem dX8_evening_21 : decode cX8_evening 21 = .ok (.i2l, 1) := by decide +kernel
theorem dX8_evening_22 : decode cX8_evening 22 = .ok (.lconst 1, 1) := by decide +kernel
theorem dX8_evening_23 : decode cX8_evening 23 = .ok (.ldc2_w 387, 3) := by decide +kernel
theorem dX8_evening_26 : decode cX8_evening 26 = .ok (.invokestatic 107, 3) := by decide +kernel
theorem dX8_evening_29 : decode cX8_evening 29 = .ok (.ifCond .ne 7, 3) := by decide +kernel
theorem dX8_evening_32 : decode cX8_evening 32 = .ok (.sipush (-1002), 3) := by decide +kernel
theorem dX8_evening_35 : decode cX8_evening 35 = .ok (.ireturn, 1) := by decide +kernel
theorem dX8_evening_36 : decode cX8_evening 36 = .ok (.lconst 0, 1) := by decide +kernel
theorem dX8_evening_37 : decode cX8_evening 37 = .ok (.lstore 4, 2) := by decide +kernel
theorem dX8_evening_39 : decode cX8_evening 39 = .ok (.iconst 0, 1) := by decide +kernel
theorem dX8_evening_40 : decode cX8_evening 40 = .ok (.istore 6, 2) := by decide +kernel
theorem dX8_evening_42 : decode cX8_evening 42 = .ok (.iload 6, 2) := by decide +kernel
theorem dX8_evening_44 : decode cX8_evening 44 = .ok (.iload_n 3, 1) := by decide +kernel
theorem dX8_evening_45 : decode cX8_evening 45 = .ok (.if_icmp .ge 21, 3) := by decide +kernel
theorem dX8_evening_48 : decode cX8_evening 48 = .ok (.lload 4, 2) := by decide +kernel
theorem dX8_evening_50 : decode cX8_evening 50 = .ok (.aload_n 0, 1) := by decide +kernel
theorem dX8_evening_51 : decode cX8_evening 51 = .ok (.iload_n 1, 1) := by decide +kernel
theorem dX8_evening_52 : decode cX8_evening 52 = .ok (.iload_n 2, 1) := by decide +kernel
theorem dX8_evening_53 : decode cX8_evening 53 = .ok (.invokevirtual 389, 3) := by decide +kernel
theorem dX8_evening_56 : decode cX8_evening 56 = .ok (.i2l, 1) := by decide +kernel
theorem dX8_evening_57 : decode cX8_evening 57 = .ok (.ladd, 1) := by decide +kernel
theorem dX8_evening_58 : decode cX8_evening 58 = .ok (.lstore 4, 2) := by decide +kernel
theorem dX8_evening_60 : decode cX8_evening 60 = .ok (.iinc 6 1, 3) := by decide +kernel
theorem dX8_evening_63 : decode cX8_evening 63 = .ok (.goto (-21), 3) := by decide +kernel
theorem dX8_evening_66 : decode cX8_evening 66 = .ok (.lload 4, 2) := by decide +kernel
theorem dX8_evening_68 : decode cX8_evening 68 = .ok (.ldc2_w 392, 3) := by decide +kernel
theorem dX8_evening_71 : decode cX8_evening 71 = .ok (.ldiv, 1) := by decide +kernel
theorem dX8_evening_72 : decode cX8_evening 72 = .ok (.l2i, 1) := by decide +kernel
theorem dX8_evening_73 : decode cX8_evening 73 = .ok (.ireturn, 1) := by decide +kernel

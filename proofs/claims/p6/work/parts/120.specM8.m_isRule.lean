theorem dX8_isRule_0 : decode cX8_isRule 0 = .ok (.iload_n 1, 1) := by decide +kernel
theorem dX8_isRule_1 : decode cX8_isRule 1 = .ok (.i2l, 1) := by decide +kernel
theorem dX8_isRule_2 : decode cX8_isRule 2 = .ok (.lconst 0, 1) := by decide +kernel
theorem dX8_isRule_3 : decode cX8_isRule 3 = .ok (.aload_n 0, 1) := by decide +kernel
theorem dX8_isRule_4 : decode cX8_isRule 4 = .ok (.getfield 276, 3) := by decide +kernel
theorem dX8_isRule_7 : decode cX8_isRule 7 = .ok (.iconst 1, 1) := by decide +kernel
theorem dX8_isRule_8 : decode cX8_isRule 8 = .ok (.isub, 1) := by decide +kernel
theorem dX8_isRule_9 : decode cX8_isRule 9 = .ok (.i2l, 1) := by decide +kernel
theorem dX8_isRule_10 : decode cX8_isRule 10 = .ok (.invokestatic 107, 3) := by decide +kernel
theorem dX8_isRule_13 : decode cX8_isRule 13 = .ok (.ireturn, 1) := by decide +kernel
set_option maxHeartbeats 4000000 in
set_option maxRecDepth 100000 in
theorem m_isRule (l : Launch) (D : va_G) (k : Nat → ClassId) (st : Nat → Nat) (lo : Nat) (a : Nat → Nat) (tx : Nat) (t0 : Nat) (we : Nat) (rd : Nat) (ru : Nat) (rw : Nat) (ca : Nat) (fp : Int32) (wd : Int64) (nu : Int32) (na : Int32) (ts : Int32) (df : Int32) (db : Int32) (sd : Int32) (pz : Int32) (hru : ru ≤ 4) : CRi l D k st lo yX8_isRule cX8_isRule 2 (some .boolean) ({ frames := 1, cells := 0, slots := 0, locals := 25 }) [.ref (a 0), .int pz] [((a 0), .inr (8, (fX8 a (nI tx) fp (nI t0) wd (nI we) nu na (nI rd) ts (nI ru) (nI rw) (nI ca) df db sd)))] (fun r => (r = 1 ∧ ∃ j : Nat, j < ru ∧ pz = nI j ∧ True) ∨ r = 0) := by
  intro sz
  refine Met.ofW (cc := cX8_isRule) (maxL := 2) (ret := (some .boolean)) (by decide) rfl ?_
  intro p e s m args below meth c s₁ B hml hv
  obtain ⟨rfl, hsz, hlo, hP, hK, hDL, hZ⟩ := hv
  have hx := B.exec
  have hb := B.bytes
  have hr := B.returns
  have hts := WS_ts B.pre
  have hown : s.vm.findClass RX8 = some m.cls := findClass_of_methodNamed B.named
  have hlocks := B.notSynchronized
  subst hsz
  have hA : ∀ q : Nat, s.heap.size ≤ q → (fun q : Nat => s.heap.size ≤ q) q := fun _ h => h
  have hAlo : ∀ q : Nat, (fun q : Nat => s.heap.size ≤ q) q → lo ≤ q := fun q h => Nat.le_trans hlo h
  have hS : va_S (fun q : Nat => s.heap.size ≤ q) s.heap s.heap [] := va_S.rf
  have hl := lv_entry ([.ref (a 0), .int pz]) (n := 2) (Nat.le_of_ble_eq_true rfl)
  rw [lg_entry_eq]
  generalize (lg_sl ([.ref (a 0), .int pz]) ++ List.replicate (2 - (lg_sl ([.ref (a 0), .int pz])).length) Slot.unset).toArray = ls at hl ⊢
  have hl : lv_has ls 2 [(0, .ref (a 0)), (1, .int pz)] := hl
  refine lv_iload_n hx hb dX8_isRule_0 rfl (lv_at hl 1 rfl) ?_
  refine lv_i2l (v := pz.toInt64) hx hb dX8_isRule_1 rfl ?_
  refine lv_lconst (v := (0 : Int32).toInt64) hx hb dX8_isRule_2 (by decide) ?_
  refine lv_aload_n hx hb dX8_isRule_3 rfl (lv_at hl 0 rfl) ?_
  refine va_get (D := D) (ci := 8) (v := .int (nI ru)) (C := RX8) (T := TX8) (N := 44) hx hb hts inX8 hown hK hP 0 rfl rfl 23 (by decide) (hts _ tw_996) (fun _ h9 => h9) rfl dX8_isRule_4 ?_
  refine lv_iconst (v := 1) hx hb dX8_isRule_7 (by decide) ?_
  refine lv_isub hx hb dX8_isRule_8 ?_
  refine lv_topi (fun x_1 ex_1 => ?_)
  refine lv_i2l (v := x_1.toInt64) hx hb dX8_isRule_9 rfl ?_
  refine ro_i (D := D) (va_runS (As := [.long (pz.toInt64), .long ((0 : Int32).toInt64), .long (x_1.toInt64)]) (rest := []) ⟨hx, hb, hml, hown, hts⟩ ((k_in l D k st lo pz (0 : Int32) x_1) s.heap.size) (va_cwS 3 hts (gS tw_1111 tw_1112 tw_87 tw_1113) rfl rfl rfl (by decide +kernel) ⟨Nat.le_of_ble_eq_true rfl, Nat.le_of_ble_eq_true rfl⟩) (pS hS hAlo hlo hP hK hDL hZ [] (by decide) rfl) rfl rfl hl.1 rfl (lv_room (Nat.le_of_ble_eq_true rfl)) dX8_isRule_10 ⟨Nat.le_of_ble_eq_true rfl, Nat.le_of_ble_eq_true rfl⟩) hS hA hP (fun r_2 H locs hw_2 hP hS => ?_)
  try dsimp only at hw_2
  rcases hw_2 with ⟨rfl, hw_2⟩ | ⟨rfl, hw_2⟩
  · exact W.zret (v := 1) (ty := .boolean) hx hb hr rfl (fun t ht hW => ⟨⟨1, (), rfl, .inl ⟨rfl, (by rw [ex_1] at hw_2; obtain ⟨j, hj, e⟩ := inB_of1 (by omega) hw_2; exact ⟨j, hj, e, trivial⟩)⟩, trivial⟩, hS.F ht⟩) hS.2.2 dX8_isRule_13
  · exact W.zret (v := 0) (ty := .boolean) hx hb hr rfl (fun t ht hW => ⟨⟨0, (), rfl, .inr rfl, trivial⟩, hS.F ht⟩) hS.2.2 dX8_isRule_13

theorem dX8_isCar_0 : decode cX8_isCar 0 = .ok (.iload_n 1, 1) := by decide +kernel
theorem dX8_isCar_1 : decode cX8_isCar 1 = .ok (.i2l, 1) := by decide +kernel
theorem dX8_isCar_2 : decode cX8_isCar 2 = .ok (.lconst 0, 1) := by decide +kernel
theorem dX8_isCar_3 : decode cX8_isCar 3 = .ok (.aload_n 0, 1) := by decide +kernel
theorem dX8_isCar_4 : decode cX8_isCar 4 = .ok (.getfield 315, 3) := by decide +kernel
theorem dX8_isCar_7 : decode cX8_isCar 7 = .ok (.iconst 1, 1) := by decide +kernel
theorem dX8_isCar_8 : decode cX8_isCar 8 = .ok (.isub, 1) := by decide +kernel
theorem dX8_isCar_9 : decode cX8_isCar 9 = .ok (.i2l, 1) := by decide +kernel
theorem dX8_isCar_10 : decode cX8_isCar 10 = .ok (.invokestatic 107, 3) := by decide +kernel
theorem dX8_isCar_13 : decode cX8_isCar 13 = .ok (.ireturn, 1) := by decide +kernel
set_option maxHeartbeats 4000000 in
set_option maxRecDepth 100000 in
theorem m_isCar (l : Launch) (D : va_G) (k : Nat → ClassId) (st : Nat → Nat) (lo : Nat) (a : Nat → Nat) (tx : Nat) (t0 : Nat) (we : Nat) (rd : Nat) (ru : Nat) (rw : Nat) (ca : Nat) (fp : Int32) (wd : Int64) (nu : Int32) (na : Int32) (ts : Int32) (df : Int32) (db : Int32) (sd : Int32) (pz : Int32) (hca : ca ≤ 4) : CRi l D k st lo yX8_isCar cX8_isCar 2 (some .boolean) ({ frames := 1, cells := 0, slots := 0, locals := 25 }) [.ref (a 0), .int pz] [((a 0), .inr (8, (fX8 a (nI tx) fp (nI t0) wd (nI we) nu na (nI rd) ts (nI ru) (nI rw) (nI ca) df db sd)))] (fun r => (r = 1 ∧ ∃ j : Nat, j < ca ∧ pz = nI j ∧ True) ∨ r = 0) := by
  intro sz
  refine Met.ofW (cc := cX8_isCar) (maxL := 2) (ret := (some .boolean)) (by decide) rfl ?_
  intro p e s m args below meth c s₁ B hml hv
  obtain ⟨rfl, hsz, hlo, hP, hK, hDL, hZ⟩ := hv
  have hx := B.exec
  have hb := B.bytes
  have hr := B.returns
  have hts := WS_ts B.pre
  have hown : s.vm.findClass RX8 = some m.cls := findClass_of_methodNamed B.named
  have hlocks := B.notSynchronized
  subst hsz
  have hA : ∀ q : Nat, s.heap.size ≤ q → (fun q : Nat => s.heap.size ≤ q) q := fun _ h => h
  have hAlo : ∀ q : Nat, (fun q : Nat => s.heap.size ≤ q) q → lo ≤ q := fun q h => Nat.le_trans hlo h
  have hS : va_S (fun q : Nat => s.heap.size ≤ q) s.heap s.heap [] := va_S.rf
  have hl := lv_entry ([.ref (a 0), .int pz]) (n := 2) (Nat.le_of_ble_eq_true rfl)
  rw [lg_entry_eq]
  generalize (lg_sl ([.ref (a 0), .int pz]) ++ List.replicate (2 - (lg_sl ([.ref (a 0), .int pz])).length) Slot.unset).toArray = ls at hl ⊢
  have hl : lv_has ls 2 [(0, .ref (a 0)), (1, .int pz)] := hl
  refine lv_iload_n hx hb dX8_isCar_0 rfl (lv_at hl 1 rfl) ?_
  refine lv_i2l (v := pz.toInt64) hx hb dX8_isCar_1 rfl ?_
  refine lv_lconst (v := (0 : Int32).toInt64) hx hb dX8_isCar_2 (by decide) ?_
  refine lv_aload_n hx hb dX8_isCar_3 rfl (lv_at hl 0 rfl) ?_
  refine va_get (D := D) (ci := 8) (v := .int (nI ca)) (C := RX8) (T := TX8) (N := 44) hx hb hts inX8 hown hK hP 0 rfl rfl 34 (by decide) (hts _ tw_1007) (fun _ h9 => h9) rfl dX8_isCar_4 ?_
  refine lv_iconst (v := 1) hx hb dX8_isCar_7 (by decide) ?_
  refine lv_isub hx hb dX8_isCar_8 ?_
  refine lv_topi (fun x_1 ex_1 => ?_)
  refine lv_i2l (v := x_1.toInt64) hx hb dX8_isCar_9 rfl ?_
  refine ro_i (D := D) (va_runS (As := [.long (pz.toInt64), .long ((0 : Int32).toInt64), .long (x_1.toInt64)]) (rest := []) ⟨hx, hb, hml, hown, hts⟩ ((k_in l D k st lo pz (0 : Int32) x_1) s.heap.size) (va_cwS 3 hts (gS tw_1111 tw_1112 tw_87 tw_1113) rfl rfl rfl (by decide +kernel) ⟨Nat.le_of_ble_eq_true rfl, Nat.le_of_ble_eq_true rfl⟩) (pS hS hAlo hlo hP hK hDL hZ [] (by decide) rfl) rfl rfl hl.1 rfl (lv_room (Nat.le_of_ble_eq_true rfl)) dX8_isCar_10 ⟨Nat.le_of_ble_eq_true rfl, Nat.le_of_ble_eq_true rfl⟩) hS hA hP (fun r_2 H locs hw_2 hP hS => ?_)
  try dsimp only at hw_2
  rcases hw_2 with ⟨rfl, hw_2⟩ | ⟨rfl, hw_2⟩
  · exact W.zret (v := 1) (ty := .boolean) hx hb hr rfl (fun t ht hW => ⟨⟨1, (), rfl, .inl ⟨rfl, (by rw [ex_1] at hw_2; obtain ⟨j, hj, e⟩ := inB_of1 (by omega) hw_2; exact ⟨j, hj, e, trivial⟩)⟩, trivial⟩, hS.F ht⟩) hS.2.2 dX8_isCar_13
  · exact W.zret (v := 0) (ty := .boolean) hx hb hr rfl (fun t ht hW => ⟨⟨0, (), rfl, .inr rfl, trivial⟩, hS.F ht⟩) hS.2.2 dX8_isCar_13

theorem dX8_isFor_0 : decode cX8_isFor 0 = .ok (.aload_n 0, 1) := by decide +kernel
theorem dX8_isFor_1 : decode cX8_isFor 1 = .ok (.getfield 63, 3) := by decide +kernel
theorem dX8_isFor_4 : decode cX8_isFor 4 = .ok (.bipush 12, 2) := by decide +kernel
theorem dX8_isFor_6 : decode cX8_isFor 6 = .ok (.iload_n 1, 1) := by decide +kernel
theorem dX8_isFor_7 : decode cX8_isFor 7 = .ok (.imul, 1) := by decide +kernel
theorem dX8_isFor_8 : decode cX8_isFor 8 = .ok (.iaload, 1) := by decide +kernel
theorem dX8_isFor_9 : decode cX8_isFor 9 = .ok (.istore 4, 2) := by decide +kernel
theorem dX8_isFor_11 : decode cX8_isFor 11 = .ok (.iconst 1, 1) := by decide +kernel
theorem dX8_isFor_12 : decode cX8_isFor 12 = .ok (.istore 5, 2) := by decide +kernel
theorem dX8_isFor_14 : decode cX8_isFor 14 = .ok (.iload 5, 2) := by decide +kernel
theorem dX8_isFor_16 : decode cX8_isFor 16 = .ok (.aload_n 0, 1) := by decide +kernel
theorem dX8_isFor_17 : decode cX8_isFor 17 = .ok (.getfield 57, 3) := by decide +kernel
theorem dX8_isFor_20 : decode cX8_isFor 20 = .ok (.iload_n 1, 1) := by decide +kernel
theorem dX8_isFor_21 : decode cX8_isFor 21 = .ok (.iaload, 1) := by decide +kernel
theorem dX8_isFor_22 : decode cX8_isFor 22 = .ok (.if_icmp .ge 44, 3) := by decide +kernel
theorem dX8_isFor_25 : decode cX8_isFor 25 = .ok (.aload_n 0, 1) := by decide +kernel
theorem dX8_isFor_26 : decode cX8_isFor 26 = .ok (.getfield 60, 3) := by decide +kernel
theorem dX8_isFor_29 : decode cX8_isFor 29 = .ok (.bipush 12, 2) := by decide +kernel
theorem dX8_isFor_31 : decode cX8_isFor 31 = .ok (.iload_n 1, 1) := by decide +kernel
theorem dX8_isFor_32 : decode cX8_isFor 32 = .ok (.imul, 1) := by decide +kernel
theorem dX8_isFor_33 : decode cX8_isFor 33 = .ok (.iload 5, 2) := by decide +kernel
theorem dX8_isFor_35 : decode cX8_isFor 35 = .ok (.iadd, 1) := by decide +kernel
theorem dX8_isFor_36 : decode cX8_isFor 36 = .ok (.iaload, 1) := by decide +kernel
theorem dX8_isFor_37 : decode cX8_isFor 37 = .ok (.iload_n 3, 1) := by decide +kernel
theorem dX8_isFor_38 : decode cX8_isFor 38 = .ok (.if_icmp .gt 18, 3) := by decide +kernel
theorem dX8_isFor_41 : decode cX8_isFor 41 = .ok (.aload_n 0, 1) := by decide +kernel
theorem dX8_isFor_42 : decode cX8_isFor 42 = .ok (.getfield 63, 3) := by decide +kernel
theorem dX8_isFor_45 : decode cX8_isFor 45 = .ok (.bipush 12, 2) := by decide +kernel
theorem dX8_isFor_47 : decode cX8_isFor 47 = .ok (.iload_n 1, 1) := by decide +kernel
theorem dX8_isFor_48 : decode cX8_isFor 48 = .ok (.imul, 1) := by decide +kernel
theorem dX8_isFor_49 : decode cX8_isFor 49 = .ok (.iload 5, 2) := by decide +kernel
theorem dX8_isFor_51 : decode cX8_isFor 51 = .ok (.iadd, 1) := by decide +kernel
theorem dX8_isFor_52 : decode cX8_isFor 52 = .ok (.iaload, 1) := by decide +kernel
theorem dX8_isFor_53 : decode cX8_isFor 53 = .ok (.goto 5, 3) := by decide +kernel
theorem dX8_isFor_56 : decode cX8_isFor 56 = .ok (.iload 4, 2) := by decide +kernel
theorem dX8_isFor_58 : decode cX8_isFor 58 = .ok (.istore 4, 2) := by decide +kernel
theorem dX8_isFor_60 : decode cX8_isFor 60 = .ok (.iinc 5 1, 3) := by decide +kernel
theorem dX8_isFor_63 : decode cX8_isFor 63 = .ok (.goto (-49), 3) := by decide +kernel
theorem dX8_isFor_66 : decode cX8_isFor 66 = .ok (.iload_n 2, 1) := by decide +kernel
theorem dX8_isFor_67 : decode cX8_isFor 67 = .ok (.iload 4, 2) := by decide +kernel
theorem dX8_isFor_69 : decode cX8_isFor 69 = .ok (.if_icmp .lt 7, 3) := by decide +kernel
theorem dX8_isFor_72 : decode cX8_isFor 72 = .ok (.iconst 1, 1) := by decide +kernel
theorem dX8_isFor_73 : decode cX8_isFor 73 = .ok (.goto 4, 3) := by decide +kernel
theorem dX8_isFor_76 : decode cX8_isFor 76 = .ok (.iconst 0, 1) := by decide +kernel
theorem dX8_isFor_77 : decode cX8_isFor 77 = .ok (.ireturn, 1) := by decide +kernel
set_option maxHeartbeats 4000000 in
set_option maxRecDepth 100000 in
theorem m_isFor (l : Launch) (D : va_G) (k : Nat → ClassId) (st : Nat → Nat) (lo : Nat) (a : Nat → Nat) (tx : Nat) (t0 : Nat) (we : Nat) (rd : Nat) (ru : Nat) (rw : Nat) (ca : Nat) (fp : Int32) (wd : Int64) (nu : Int32) (na : Int32) (ts : Int32) (df : Int32) (db : Int32) (sd : Int32) (bm : Nat → Nat) (fbarSeen : Nat → Int32) (fbarFrom : Nat → Int32) (kr : Nat) (p1 : Int32) (p2 : Int32) (hbm : ∀ j, bm j ≤ 12) (hk : kr < 4) : CRi l D k st lo yX8_isFor cX8_isFor 6 (some .boolean) ({ frames := 0, cells := 0, slots := 0, locals := 0 }) [.ref (a 0), .int (nI kr), .int p1, .int p2] [((a 0), .inr (8, (fX8 a (nI tx) fp (nI t0) wd (nI we) nu na (nI rd) ts (nI ru) (nI rw) (nI ca) df db sd))), (aI k (a 25) 4 (nF bm)), (aI k (a 26) 48 fbarSeen), (aI k (a 27) 48 fbarFrom)] (fun r => r = 1 ∨ r = 0) := by
  intro sz
  refine Met.ofW (cc := cX8_isFor) (maxL := 6) (ret := (some .boolean)) (by decide) rfl ?_
  intro p e s m args below meth c s₁ B hml hv
  obtain ⟨rfl, hsz, hlo, hP, hK, hDL, hZ⟩ := hv
  have hx := B.exec
  have hb := B.bytes
  have hr := B.returns
  have hts := WS_ts B.pre
  have hown : s.vm.findClass RX8 = some m.cls := findClass_of_methodNamed B.named
  have hlocks := B.notSynchronized
  subst hsz
  have hA : ∀ q : Nat, s.heap.size ≤ q → (fun q : Nat => s.heap.size ≤ q) q := fun _ h => h
  have hAlo : ∀ q : Nat, (fun q : Nat => s.heap.size ≤ q) q → lo ≤ q := fun q h => Nat.le_trans hlo h
  have hS : va_S (fun q : Nat => s.heap.size ≤ q) s.heap s.heap [] := va_S.rf
  have hl := lv_entry ([.ref (a 0), .int (nI kr), .int p1, .int p2]) (n := 6) (Nat.le_of_ble_eq_true rfl)
  rw [lg_entry_eq]
  generalize (lg_sl ([.ref (a 0), .int (nI kr), .int p1, .int p2]) ++ List.replicate (6 - (lg_sl ([.ref (a 0), .int (nI kr), .int p1, .int p2])).length) Slot.unset).toArray = ls at hl ⊢
  have hl : lv_has ls 6 [(0, .ref (a 0)), (1, .int (nI kr)), (2, .int p1), (3, .int p2)] := hl
  have hb_9 := hbm kr
  refine lv_aload_n hx hb dX8_isFor_0 rfl (lv_at hl 0 rfl) ?_
  refine va_get (D := D) (ci := 8) (v := .ref (a 27)) (C := RX8) (T := TX8) (N := 44) hx hb hts inX8 hown hK hP 0 rfl rfl 26 (by decide) (hts _ tw_999) (fun _ h9 => h9) rfl dX8_isFor_1 ?_
  refine lv_bipush (v := 12) hx hb dX8_isFor_4 (by decide) ?_
  refine lv_iload_n hx hb dX8_isFor_6 rfl (lv_at hl 1 rfl) ?_
  refine lv_imul hx hb dX8_isFor_7 ?_
  refine lv_ti (y := (nI (12 * kr))) (pk_mul 12 kr) ?_
  refine va_iald hx hb hK hP 3 1 rfl rfl (vp_in_nI (by omega) (by decide)) dX8_isFor_8 ?_
  refine lv_ti (y := (fbarFrom (12 * kr))) (by rw [nI_clamp (by omega)]) ?_
  refine lv_istore (lv' := [(4, .int (fbarFrom (12 * kr))), (0, .ref (a 0)), (1, .int (nI kr)), (2, .int p1), (3, .int p2)]) hx hb dX8_isFor_9 hl (by decide) rfl (fun ls hl => ?_)
  refine lv_iconst (v := 1) hx hb dX8_isFor_11 (by decide) ?_
  refine lv_istore (lv' := [(5, .int 1), (4, .int (fbarFrom (12 * kr))), (0, .ref (a 0)), (1, .int (nI kr)), (2, .int p1), (3, .int p2)]) hx hb dX8_isFor_12 hl (by decide) rfl (fun ls hl => ?_)
  refine W_loop (σ := Nat × Int32) (fun (n_ : Nat) (x_ : Nat × Int32) (H : Heap) (locs : List Loc) (ls : Array Slot) => match x_ with | (kk_1, fr_1) => n_ = 13 - kk_1 ∧ (kk_1 ≤ 13) ∧ va_P D classes [((a 0), .inr (8, (fX8 a (nI tx) fp (nI t0) wd (nI we) nu na (nI rd) ts (nI ru) (nI rw) (nI ca) df db sd))), (aI k (a 25) 4 (nF bm)), (aI k (a 26) 48 fbarSeen), (aI k (a 27) 48 fbarFrom)] H ∧ va_S (fun q : Nat => s.heap.size ≤ q) s.heap H locs ∧ lv_has ls 6 [(5, .int (nI kk_1)), (4, .int fr_1), (0, .ref (a 0)), (1, .int (nI kr)), (2, .int p1), (3, .int p2)]) (fun n_1 x_1 H locs ls hI ih_1 => ?_) _ (1, (fbarFrom (12 * kr))) ⟨rfl, (by omega), hP, hS, (lv_sub hl [0, 1, 2, 3, 4, 5] rfl)⟩
  obtain ⟨kk_1, fr_1⟩ := x_1
  obtain ⟨hm_1, hv_1, hP, hS, hl⟩ := hI
  subst hm_1
  refine lv_iload hx hb dX8_isFor_14 (lv_at hl 0 rfl) ?_
  refine lv_aload_n hx hb dX8_isFor_16 rfl (lv_at hl 2 rfl) ?_
  refine va_get (D := D) (ci := 8) (v := .ref (a 25)) (C := RX8) (T := TX8) (N := 44) hx hb hts inX8 hown hK hP 0 rfl rfl 24 (by decide) (hts _ tw_997) (fun _ h9 => h9) rfl dX8_isFor_17 ?_
  refine lv_iload_n hx hb dX8_isFor_20 rfl (lv_at hl 3 rfl) ?_
  refine va_iald hx hb hK hP 1 1 rfl rfl (vp_in_nI (by omega) (by decide)) dX8_isFor_21 ?_
  refine lv_ti (y := (nI (bm kr))) (by rw [nI_clamp (by omega)]; rfl) ?_
  refine lv_icmp_ge (tgt := 66) hx hb dX8_isFor_22 (by decide) (fun c_2 => ?_) (fun c_2 => ?_)
  · have c_2 := (nI_leI (a := (bm kr)) (b := kk_1) (by omega) (by omega)).mp c_2
    refine lv_iload_n hx hb dX8_isFor_66 rfl (lv_at hl 4 rfl) ?_
    refine lv_iload hx hb dX8_isFor_67 (lv_at hl 1 rfl) ?_
    refine lv_icmp_lt (tgt := 76) hx hb dX8_isFor_69 (by decide) (fun c_3 => ?_) (fun c_3 => ?_)
    · refine lv_iconst (v := 0) hx hb dX8_isFor_76 (by decide) ?_
      exact W.zret (v := 0) (ty := .boolean) hx hb hr rfl (fun t ht hW => ⟨⟨0, (), rfl, .inr rfl, trivial⟩, hS.F ht⟩) hS.2.2 dX8_isFor_77
    · refine lv_iconst (v := 1) hx hb dX8_isFor_72 (by decide) ?_
      refine lv_goto (tgt := 77) hx hb dX8_isFor_73 (by decide) ?_
      exact W.zret (v := 1) (ty := .boolean) hx hb hr rfl (fun t ht hW => ⟨⟨1, (), rfl, .inl rfl, trivial⟩, hS.F ht⟩) hS.2.2 dX8_isFor_77
  · have c_2 : ¬ ((bm kr) ≤ kk_1) := fun h => c_2 ((nI_leI (a := (bm kr)) (b := kk_1) (by omega) (by omega)).mpr h)
    refine lv_aload_n hx hb dX8_isFor_25 rfl (lv_at hl 2 rfl) ?_
    refine va_get (D := D) (ci := 8) (v := .ref (a 26)) (C := RX8) (T := TX8) (N := 44) hx hb hts inX8 hown hK hP 0 rfl rfl 25 (by decide) (hts _ tw_998) (fun _ h9 => h9) rfl dX8_isFor_26 ?_
    refine lv_bipush (v := 12) hx hb dX8_isFor_29 (by decide) ?_
    refine lv_iload_n hx hb dX8_isFor_31 rfl (lv_at hl 3 rfl) ?_
    refine lv_imul hx hb dX8_isFor_32 ?_
    refine lv_ti (y := (nI (12 * kr))) (pk_mul 12 kr) ?_
    refine lv_iload hx hb dX8_isFor_33 (lv_at hl 0 rfl) ?_
    refine lv_iadd hx hb dX8_isFor_35 ?_
    refine lv_ti (y := (nI (12 * kr + kk_1))) (nI_add (12 * kr) kk_1) ?_
    refine va_iald hx hb hK hP 2 1 rfl rfl (vp_in_nI (by omega) (by decide)) dX8_isFor_36 ?_
    refine lv_ti (y := (fbarSeen (12 * kr + kk_1))) (by rw [nI_clamp (by omega)]) ?_
    refine lv_iload_n hx hb dX8_isFor_37 rfl (lv_at hl 5 rfl) ?_
    refine lv_icmp_gt (tgt := 56) hx hb dX8_isFor_38 (by decide) (fun c_4 => ?_) (fun c_4 => ?_)
    · refine lv_iload hx hb dX8_isFor_56 (lv_at hl 1 rfl) ?_
      refine lv_istore (lv' := [(4, .int fr_1), (5, .int (nI kk_1)), (0, .ref (a 0)), (1, .int (nI kr)), (2, .int p1), (3, .int p2)]) hx hb dX8_isFor_58 hl (by decide) rfl (fun ls hl => ?_)
      refine lv_iinc (v := (nI (kk_1 + 1))) (lv' := [(5, .int (nI (kk_1 + 1))), (4, .int fr_1), (0, .ref (a 0)), (1, .int (nI kr)), (2, .int p1), (3, .int p2)]) hx hb dX8_isFor_60 hl (k := 1) rfl (nI_add kk_1 1) (by decide) rfl (fun ls hl => ?_)
      refine lv_goto (tgt := 14) hx hb dX8_isFor_63 (by decide) ?_
      exact ih_1 _ (kk_1 + 1, fr_1) _ _ _ (by omega) ⟨rfl, (by omega), hP, hS, (lv_sub hl [0, 1, 2, 3, 4, 5] rfl)⟩
    · refine lv_aload_n hx hb dX8_isFor_41 rfl (lv_at hl 2 rfl) ?_
      refine va_get (D := D) (ci := 8) (v := .ref (a 27)) (C := RX8) (T := TX8) (N := 44) hx hb hts inX8 hown hK hP 0 rfl rfl 26 (by decide) (hts _ tw_999) (fun _ h9 => h9) rfl dX8_isFor_42 ?_
      refine lv_bipush (v := 12) hx hb dX8_isFor_45 (by decide) ?_
      refine lv_iload_n hx hb dX8_isFor_47 rfl (lv_at hl 3 rfl) ?_
      refine lv_imul hx hb dX8_isFor_48 ?_
      refine lv_ti (y := (nI (12 * kr))) (pk_mul 12 kr) ?_
      refine lv_iload hx hb dX8_isFor_49 (lv_at hl 0 rfl) ?_
      refine lv_iadd hx hb dX8_isFor_51 ?_
      refine lv_ti (y := (nI (12 * kr + kk_1))) (nI_add (12 * kr) kk_1) ?_
      refine va_iald hx hb hK hP 3 1 rfl rfl (vp_in_nI (by omega) (by decide)) dX8_isFor_52 ?_
      refine lv_ti (y := (fbarFrom (12 * kr + kk_1))) (by rw [nI_clamp (by omega)]) ?_
      refine lv_goto (tgt := 58) hx hb dX8_isFor_53 (by decide) ?_
      refine lv_istore (lv' := [(4, .int (fbarFrom (12 * kr + kk_1))), (5, .int (nI kk_1)), (0, .ref (a 0)), (1, .int (nI kr)), (2, .int p1), (3, .int p2)]) hx hb dX8_isFor_58 hl (by decide) rfl (fun ls hl => ?_)
      refine lv_iinc (v := (nI (kk_1 + 1))) (lv' := [(5, .int (nI (kk_1 + 1))), (4, .int (fbarFrom (12 * kr + kk_1))), (0, .ref (a 0)), (1, .int (nI kr)), (2, .int p1), (3, .int p2)]) hx hb dX8_isFor_60 hl (k := 1) rfl (nI_add kk_1 1) (by decide) rfl (fun ls hl => ?_)
      refine lv_goto (tgt := 14) hx hb dX8_isFor_63 (by decide) ?_
      exact ih_1 _ (kk_1 + 1, (fbarFrom (12 * kr + kk_1))) _ _ _ (by omega) ⟨rfl, (by omega), hP, hS, (lv_sub hl [0, 1, 2, 3, 4, 5] rfl)⟩

theorem dX8_isRoundBy_0 : decode cX8_isRoundBy 0 = .ok (.iload_n 3, 1) := by decide +kernel
theorem dX8_isRoundBy_1 : decode cX8_isRoundBy 1 = .ok (.aload_n 0, 1) := by decide +kernel
theorem dX8_isRoundBy_2 : decode cX8_isRoundBy 2 = .ok (.getfield 66, 3) := by decide +kernel
theorem dX8_isRoundBy_5 : decode cX8_isRoundBy 5 = .ok (.iload_n 2, 1) := by decide +kernel
theorem dX8_isRoundBy_6 : decode cX8_isRoundBy 6 = .ok (.iaload, 1) := by decide +kernel
theorem dX8_isRoundBy_7 : decode cX8_isRoundBy 7 = .ok (.if_icmp .ge 18, 3) := by decide +kernel
theorem dX8_isRoundBy_10 : decode cX8_isRoundBy 10 = .ok (.iload_n 3, 1) := by decide +kernel
theorem dX8_isRoundBy_11 : decode cX8_isRoundBy 11 = .ok (.aload_n 0, 1) := by decide +kernel
theorem dX8_isRoundBy_12 : decode cX8_isRoundBy 12 = .ok (.iload_n 1, 1) := by decide +kernel
theorem dX8_isRoundBy_13 : decode cX8_isRoundBy 13 = .ok (.bipush 7, 2) := by decide +kernel
theorem dX8_isRoundBy_15 : decode cX8_isRoundBy 15 = .ok (.invokevirtual 212, 3) := by decide +kernel
theorem dX8_isRoundBy_18 : decode cX8_isRoundBy 18 = .ok (.if_icmp .ge 7, 3) := by decide +kernel
theorem dX8_isRoundBy_21 : decode cX8_isRoundBy 21 = .ok (.iconst 1, 1) := by decide +kernel
theorem dX8_isRoundBy_22 : decode cX8_isRoundBy 22 = .ok (.goto 4, 3) := by decide +kernel
theorem dX8_isRoundBy_25 : decode cX8_isRoundBy 25 = .ok (.iconst 0, 1) := by decide +kernel
theorem dX8_isRoundBy_26 : decode cX8_isRoundBy 26 = .ok (.ireturn, 1) := by decide +kernel
set_option maxHeartbeats 4000000 in
set_option maxRecDepth 100000 in
theorem m_isRoundBy (l : Launch) (D : va_G) (k : Nat → ClassId) (st : Nat → Nat) (lo : Nat) (a : Nat → Nat) (tx : Nat) (t0 : Nat) (we : Nat) (rd : Nat) (ru : Nat) (rw : Nat) (ca : Nat) (fp : Int32) (wd : Int64) (nu : Int32) (na : Int32) (ts : Int32) (df : Int32) (db : Int32) (sd : Int32) (se : Nat → Nat) (tm : Nat → Nat) (gs : Nat → Int32) (fruleRounds : Nat → Int32) (sn : Nat) (kr : Nat) (rn : Nat) (htm : ∀ j, tm j ≤ 3) (hs : sn < 3) (hk : kr < 4) (hrn : rn ≤ 3) : CRi l D k st lo yX8_isRoundBy cX8_isRoundBy 4 (some .boolean) ({ frames := 1, cells := 0, slots := 0, locals := 22 }) [.ref (a 0), .int (nI sn), .int (nI kr), .int (nI rn)] [((a 0), .inr (8, (fX8 a (nI tx) fp (nI t0) wd (nI we) nu na (nI rd) ts (nI ru) (nI rw) (nI ca) df db sd))), (aI k (a 4) 27 (sg se tm gs)), (aI k (a 28) 4 fruleRounds)] (fun r => (r = 1 ∧ rn < tm sn) ∨ r = 0) := by
  intro sz
  refine Met.ofW (cc := cX8_isRoundBy) (maxL := 4) (ret := (some .boolean)) (by decide) rfl ?_
  intro p e s m args below meth c s₁ B hml hv
  obtain ⟨rfl, hsz, hlo, hP, hK, hDL, hZ⟩ := hv
  have hx := B.exec
  have hb := B.bytes
  have hr := B.returns
  have hts := WS_ts B.pre
  have hown : s.vm.findClass RX8 = some m.cls := findClass_of_methodNamed B.named
  have hlocks := B.notSynchronized
  subst hsz
  have hA : ∀ q : Nat, s.heap.size ≤ q → (fun q : Nat => s.heap.size ≤ q) q := fun _ h => h
  have hAlo : ∀ q : Nat, (fun q : Nat => s.heap.size ≤ q) q → lo ≤ q := fun q h => Nat.le_trans hlo h
  have hS : va_S (fun q : Nat => s.heap.size ≤ q) s.heap s.heap [] := va_S.rf
  have hl := lv_entry ([.ref (a 0), .int (nI sn), .int (nI kr), .int (nI rn)]) (n := 4) (Nat.le_of_ble_eq_true rfl)
  rw [lg_entry_eq]
  generalize (lg_sl ([.ref (a 0), .int (nI sn), .int (nI kr), .int (nI rn)]) ++ List.replicate (4 - (lg_sl ([.ref (a 0), .int (nI sn), .int (nI kr), .int (nI rn)])).length) Slot.unset).toArray = ls at hl ⊢
  have hl : lv_has ls 4 [(0, .ref (a 0)), (1, .int (nI sn)), (2, .int (nI kr)), (3, .int (nI rn))] := hl
  have hd_7 := htm sn
  refine lv_iload_n hx hb dX8_isRoundBy_0 rfl (lv_at hl 3 rfl) ?_
  refine lv_aload_n hx hb dX8_isRoundBy_1 rfl (lv_at hl 0 rfl) ?_
  refine va_get (D := D) (ci := 8) (v := .ref (a 28)) (C := RX8) (T := TX8) (N := 44) hx hb hts inX8 hown hK hP 0 rfl rfl 27 (by decide) (hts _ tw_1000) (fun _ h9 => h9) rfl dX8_isRoundBy_2 ?_
  refine lv_iload_n hx hb dX8_isRoundBy_5 rfl (lv_at hl 2 rfl) ?_
  refine va_iald hx hb hK hP 2 1 rfl rfl (vp_in_nI (by omega) (by decide)) dX8_isRoundBy_6 ?_
  refine lv_ti (y := (fruleRounds kr)) (by rw [nI_clamp (by omega)]) ?_
  refine lv_icmp_ge (tgt := 25) hx hb dX8_isRoundBy_7 (by decide) (fun c_1 => ?_) (fun c_1 => ?_)
  · refine lv_iconst (v := 0) hx hb dX8_isRoundBy_25 (by decide) ?_
    exact W.zret (v := 0) (ty := .boolean) hx hb hr rfl (fun t ht hW => ⟨⟨0, (), rfl, .inr rfl, trivial⟩, hS.F ht⟩) hS.2.2 dX8_isRoundBy_26
  · refine lv_iload_n hx hb dX8_isRoundBy_10 rfl (lv_at hl 3 rfl) ?_
    refine lv_aload_n hx hb dX8_isRoundBy_11 rfl (lv_at hl 0 rfl) ?_
    refine lv_iload_n hx hb dX8_isRoundBy_12 rfl (lv_at hl 1 rfl) ?_
    refine lv_bipush (v := 7) hx hb dX8_isRoundBy_13 (by decide) ?_
    refine ro_i (D := D) (va_runV (As := [.int (nI sn), .int 7]) (rest := [.int (nI rn)]) ⟨hx, hb, hml, hown, hts⟩ ((m_of l D k st lo a tx t0 we rd ru rw ca fp wd nu na ts df db sd se tm gs sn 7 (by omega) (by omega)) s.heap.size) (cwV 2 hts (gV tw_1194 tw_1196 tw_39 tw_87 tw_1197) rfl rfl rfl (by decide +kernel) ⟨Nat.le_of_ble_eq_true rfl, Nat.le_of_ble_eq_true rfl⟩) (pV hS hAlo hlo hP hK hDL hZ [0, 1] (by decide) rfl (ci := 8) (q := (RX8, TX8, 44)) (q0 := 0) rfl rfl) rfl rfl hl.1 rfl (lv_room (Nat.le_of_ble_eq_true rfl)) dX8_isRoundBy_15 ⟨Nat.le_of_ble_eq_true rfl, Nat.le_of_ble_eq_true rfl⟩) hS hA hP (fun r_2 H locs hw_2 hP hS => ?_)
    try dsimp only at hw_2
    obtain rfl := hw_2.trans (sg_tm _ _ _ _)
    refine lv_icmp_ge (tgt := 25) hx hb dX8_isRoundBy_18 (by decide) (fun c_3 => ?_) (fun c_3 => ?_)
    · have c_3 := (nI_leI (a := (tm sn)) (b := rn) (by omega) (by omega)).mp c_3
      refine lv_iconst (v := 0) hx hb dX8_isRoundBy_25 (by decide) ?_
      exact W.zret (v := 0) (ty := .boolean) hx hb hr rfl (fun t ht hW => ⟨⟨0, (), rfl, .inr rfl, trivial⟩, hS.F ht⟩) hS.2.2 dX8_isRoundBy_26
    · have c_3 : ¬ ((tm sn) ≤ rn) := fun h => c_3 ((nI_leI (a := (tm sn)) (b := rn) (by omega) (by omega)).mpr h)
      refine lv_iconst (v := 1) hx hb dX8_isRoundBy_21 (by decide) ?_
      refine lv_goto (tgt := 26) hx hb dX8_isRoundBy_22 (by decide) ?_
      exact W.zret (v := 1) (ty := .boolean) hx hb hr rfl (fun t ht hW => ⟨⟨1, (), rfl, .inl ⟨rfl, by omega⟩, trivial⟩, hS.F ht⟩) hS.2.2 dX8_isRoundBy_26

theorem dX8_byTaking_0 : decode cX8_byTaking 0 = .ok (.aload_n 0, 1) := by decide +kernel
theorem dX8_byTaking_1 : decode cX8_byTaking 1 = .ok (.iload_n 1, 1) := by decide +kernel
theorem dX8_byTaking_2 : decode cX8_byTaking 2 = .ok (.aload_n 0, 1) := by decide +kernel
theorem dX8_byTaking_3 : decode cX8_byTaking 3 = .ok (.iload_n 1, 1) := by decide +kernel
theorem dX8_byTaking_4 : decode cX8_byTaking 4 = .ok (.iload_n 2, 1) := by decide +kernel
theorem dX8_byTaking_5 : decode cX8_byTaking 5 = .ok (.iload_n 3, 1) := by decide +kernel
theorem dX8_byTaking_6 : decode cX8_byTaking 6 = .ok (.invokevirtual 223, 3) := by decide +kernel
theorem dX8_byTaking_9 : decode cX8_byTaking 9 = .ok (.aload_n 0, 1) := by decide +kernel
theorem dX8_byTaking_10 : decode cX8_byTaking 10 = .ok (.getfield 7, 3) := by decide +kernel
theorem dX8_byTaking_13 : decode cX8_byTaking 13 = .ok (.iload_n 1, 1) := by decide +kernel
theorem dX8_byTaking_14 : decode cX8_byTaking 14 = .ok (.iaload, 1) := by decide +kernel
theorem dX8_byTaking_15 : decode cX8_byTaking 15 = .ok (.iadd, 1) := by decide +kernel
theorem dX8_byTaking_16 : decode cX8_byTaking 16 = .ok (.iload_n 3, 1) := by decide +kernel
theorem dX8_byTaking_17 : decode cX8_byTaking 17 = .ok (.isub, 1) := by decide +kernel
theorem dX8_byTaking_18 : decode cX8_byTaking 18 = .ok (.invokevirtual 227, 3) := by decide +kernel
theorem dX8_byTaking_21 : decode cX8_byTaking 21 = .ok (.ifCond .le 7, 3) := by decide +kernel
theorem dX8_byTaking_24 : decode cX8_byTaking 24 = .ok (.iconst 1, 1) := by decide +kernel
theorem dX8_byTaking_25 : decode cX8_byTaking 25 = .ok (.goto 4, 3) := by decide +kernel
theorem dX8_byTaking_28 : decode cX8_byTaking 28 = .ok (.iconst 0, 1) := by decide +kernel
theorem dX8_byTaking_29 : decode cX8_byTaking 29 = .ok (.istore 5, 2) := by decide +kernel
theorem dX8_byTaking_31 : decode cX8_byTaking 31 = .ok (.iload 4, 2) := by decide +kernel
theorem dX8_byTaking_33 : decode cX8_byTaking 33 = .ok (.ifCond .ne 13, 3) := by decide +kernel
theorem dX8_byTaking_36 : decode cX8_byTaking 36 = .ok (.aload_n 0, 1) := by decide +kernel
theorem dX8_byTaking_37 : decode cX8_byTaking 37 = .ok (.iload_n 1, 1) := by decide +kernel
theorem dX8_byTaking_38 : decode cX8_byTaking 38 = .ok (.iload_n 2, 1) := by decide +kernel
theorem dX8_byTaking_39 : decode cX8_byTaking 39 = .ok (.iload_n 3, 1) := by decide +kernel
theorem dX8_byTaking_40 : decode cX8_byTaking 40 = .ok (.invokevirtual 237, 3) := by decide +kernel
theorem dX8_byTaking_43 : decode cX8_byTaking 43 = .ok (.goto 21, 3) := by decide +kernel
theorem dX8_byTaking_46 : decode cX8_byTaking 46 = .ok (.iload 4, 2) := by decide +kernel
theorem dX8_byTaking_48 : decode cX8_byTaking 48 = .ok (.iconst 1, 1) := by decide +kernel
theorem dX8_byTaking_49 : decode cX8_byTaking 49 = .ok (.if_icmp .ne 14, 3) := by decide +kernel
theorem dX8_byTaking_52 : decode cX8_byTaking 52 = .ok (.iload 5, 2) := by decide +kernel
theorem dX8_byTaking_54 : decode cX8_byTaking 54 = .ok (.ifCond .eq 9, 3) := by decide +kernel
theorem dX8_byTaking_57 : decode cX8_byTaking 57 = .ok (.ldc_w 285, 3) := by decide +kernel
theorem dX8_byTaking_60 : decode cX8_byTaking 60 = .ok (.goto 4, 3) := by decide +kernel
theorem dX8_byTaking_63 : decode cX8_byTaking 63 = .ok (.iconst 0, 1) := by decide +kernel
theorem dX8_byTaking_64 : decode cX8_byTaking 64 = .ok (.ireturn, 1) := by decide +kernel
set_option maxHeartbeats 4000000 in
set_option maxRecDepth 100000 in
theorem m_byTaking (l : Launch) (D : va_G) (k : Nat → ClassId) (st : Nat → Nat) (lo : Nat) (a : Nat → Nat) (tx : Nat) (t0 : Nat) (we : Nat) (rd : Nat) (ru : Nat) (rw : Nat) (ca : Nat) (fp : Int32) (wd : Int64) (nu : Int32) (na : Int32) (ts : Int32) (df : Int32) (db : Int32) (sd : Int32) (dn : Nat → Nat) (se : Nat → Nat) (tm : Nat → Nat) (gs : Nat → Int32) (fprices : Nat → Int32) (sn : Nat) (i : Nat) (p0 : Int32) (p3 : Int32)  (hs : sn < 3) (hi : i < 24) : CRi l D k st lo yX8_byTaking cX8_byTaking 6 (some .int) ({ frames := 4, cells := 0, slots := 0, locals := 93 }) [.ref (a 0), .int (nI sn), .int p0, .int (nI i), .int p3] [((a 0), .inr (8, (fX8 a (nI tx) fp (nI t0) wd (nI we) nu na (nI rd) ts (nI ru) (nI rw) (nI ca) df db sd))), (aI k (a 1) 3 (nF dn)), (aI k (a 4) 27 (sg se tm gs)), (aI k (a 3) 72 fprices)] (fun r => True) := by
  intro sz
  refine Met.ofW (cc := cX8_byTaking) (maxL := 6) (ret := (some .int)) (by decide) rfl ?_
  intro p e s m args below meth c s₁ B hml hv
  obtain ⟨rfl, hsz, hlo, hP, hK, hDL, hZ⟩ := hv
  have hx := B.exec
  have hb := B.bytes
  have hr := B.returns
  have hts := WS_ts B.pre
  have hown : s.vm.findClass RX8 = some m.cls := findClass_of_methodNamed B.named
  have hlocks := B.notSynchronized
  subst hsz
  have hA : ∀ q : Nat, s.heap.size ≤ q → (fun q : Nat => s.heap.size ≤ q) q := fun _ h => h
  have hAlo : ∀ q : Nat, (fun q : Nat => s.heap.size ≤ q) q → lo ≤ q := fun q h => Nat.le_trans hlo h
  have hS : va_S (fun q : Nat => s.heap.size ≤ q) s.heap s.heap [] := va_S.rf
  have hl := lv_entry ([.ref (a 0), .int (nI sn), .int p0, .int (nI i), .int p3]) (n := 6) (Nat.le_of_ble_eq_true rfl)
  rw [lg_entry_eq]
  generalize (lg_sl ([.ref (a 0), .int (nI sn), .int p0, .int (nI i), .int p3]) ++ List.replicate (6 - (lg_sl ([.ref (a 0), .int (nI sn), .int p0, .int (nI i), .int p3])).length) Slot.unset).toArray = ls at hl ⊢
  have hl : lv_has ls 6 [(0, .ref (a 0)), (1, .int (nI sn)), (2, .int p0), (3, .int (nI i)), (4, .int p3)] := hl
  refine lv_aload_n hx hb dX8_byTaking_0 rfl (lv_at hl 0 rfl) ?_
  refine lv_iload_n hx hb dX8_byTaking_1 rfl (lv_at hl 1 rfl) ?_
  refine lv_aload_n hx hb dX8_byTaking_2 rfl (lv_at hl 0 rfl) ?_
  refine lv_iload_n hx hb dX8_byTaking_3 rfl (lv_at hl 1 rfl) ?_
  refine lv_iload_n hx hb dX8_byTaking_4 rfl (lv_at hl 2 rfl) ?_
  refine lv_iload_n hx hb dX8_byTaking_5 rfl (lv_at hl 3 rfl) ?_
  refine ro_i (D := D) (va_runV (As := [.int (nI sn), .int p0, .int (nI i)]) (rest := [.int (nI sn), .ref (a 0)]) ⟨hx, hb, hml, hown, hts⟩ ((m_tick l D k st lo a tx t0 we rd ru rw ca fp wd nu na ts df db sd dn se tm gs sn p0 (nI i) (by omega)) s.heap.size) (cwV 3 hts (gV tw_1230 tw_1232 tw_45 tw_87 tw_1233) rfl rfl rfl (by decide +kernel) ⟨Nat.le_of_ble_eq_true rfl, Nat.le_of_ble_eq_true rfl⟩) (pV hS hAlo hlo hP hK hDL hZ [0, 1, 2] (by decide) rfl (ci := 8) (q := (RX8, TX8, 44)) (q0 := 0) rfl rfl) rfl rfl hl.1 rfl (lv_room (Nat.le_of_ble_eq_true rfl)) dX8_byTaking_6 ⟨Nat.le_of_ble_eq_true rfl, Nat.le_of_ble_eq_true rfl⟩) hS hA hP (fun r_1 H locs hw_1 hP hS => ?_)
  try dsimp only at hw_1
  refine lv_aload_n hx hb dX8_byTaking_9 rfl (lv_at hl 0 rfl) ?_
  refine va_get (D := D) (ci := 8) (v := .ref (a 1)) (C := RX8) (T := TX8) (N := 44) hx hb hts inX8 hown hK hP 0 rfl rfl 0 (by decide) (hts _ tw_973) (fun _ h9 => h9) rfl dX8_byTaking_10 ?_
  refine lv_iload_n hx hb dX8_byTaking_13 rfl (lv_at hl 1 rfl) ?_
  refine va_iald hx hb hK hP 1 1 rfl rfl (vp_in_nI (by omega) (by decide)) dX8_byTaking_14 ?_
  refine lv_ti (y := (nI (dn sn))) (by rw [nI_clamp (by omega)]; rfl) ?_
  refine lv_iadd hx hb dX8_byTaking_15 ?_
  refine lv_topi (fun x_2 ex_2 => ?_)
  refine lv_iload_n hx hb dX8_byTaking_16 rfl (lv_at hl 3 rfl) ?_
  refine lv_isub hx hb dX8_byTaking_17 ?_
  refine lv_topi (fun x_3 ex_3 => ?_)
  refine ro_i (D := D) (va_runV (As := [.int (nI sn), .int x_3]) (rest := []) ⟨hx, hb, hml, hown, hts⟩ ((m_lateAt l D k st lo a tx t0 we rd ru rw ca fp wd nu na ts df db sd se tm gs sn x_3 (by omega)) H.size) (cwV 2 hts (gV tw_1234 tw_1236 tw_46 tw_87 tw_1237) rfl rfl rfl (by decide +kernel) ⟨Nat.le_of_ble_eq_true rfl, Nat.le_of_ble_eq_true rfl⟩) (pV hS hAlo hlo hP hK hDL hZ [0, 2] (by decide) rfl (ci := 8) (q := (RX8, TX8, 44)) (q0 := 0) rfl rfl) rfl rfl hl.1 rfl (lv_room (Nat.le_of_ble_eq_true rfl)) dX8_byTaking_18 ⟨Nat.le_of_ble_eq_true rfl, Nat.le_of_ble_eq_true rfl⟩) hS hA hP (fun r_4 H locs hw_4 hP hS => ?_)
  try dsimp only at hw_4
  refine lv_if_le (tgt := 28) hx hb dX8_byTaking_21 (by decide) (fun c_5 => ?_) (fun c_5 => ?_)
  · refine lv_iconst (v := 0) hx hb dX8_byTaking_28 (by decide) ?_
    refine lv_istore (lv' := [(5, .int 0), (0, .ref (a 0)), (1, .int (nI sn)), (2, .int p0), (3, .int (nI i)), (4, .int p3)]) hx hb dX8_byTaking_29 hl (by decide) rfl (fun ls hl => ?_)
    refine lv_iload hx hb dX8_byTaking_31 (lv_at hl 5 rfl) ?_
    refine lv_if_ne (tgt := 46) hx hb dX8_byTaking_33 (by decide) (fun c_6 => ?_) (fun c_6 => ?_)
    · refine lv_iload hx hb dX8_byTaking_46 (lv_at hl 5 rfl) ?_
      refine lv_iconst (v := 1) hx hb dX8_byTaking_48 (by decide) ?_
      refine lv_icmp_ne (tgt := 63) hx hb dX8_byTaking_49 (by decide) (fun c_7 => ?_) (fun c_7 => ?_)
      · refine lv_iconst (v := 0) hx hb dX8_byTaking_63 (by decide) ?_
        exact W.iret (v := 0) hx hb hr (fun t ht hW => ⟨⟨0, (), rfl, trivial, trivial⟩, hS.F ht⟩) hS.2.2 dX8_byTaking_64
      · refine lv_iload hx hb dX8_byTaking_52 (lv_at hl 0 rfl) ?_
        refine lv_if_eq (tgt := 63) hx hb dX8_byTaking_54 (by decide) (fun _ => ?_) (fun h => absurd (by decide) h)
        refine lv_iconst (v := 0) hx hb dX8_byTaking_63 (by decide) ?_
        exact W.iret (v := 0) hx hb hr (fun t ht hW => ⟨⟨0, (), rfl, trivial, trivial⟩, hS.F ht⟩) hS.2.2 dX8_byTaking_64
    · refine lv_aload_n hx hb dX8_byTaking_36 rfl (lv_at hl 1 rfl) ?_
      refine lv_iload_n hx hb dX8_byTaking_37 rfl (lv_at hl 2 rfl) ?_
      refine lv_iload_n hx hb dX8_byTaking_38 rfl (lv_at hl 3 rfl) ?_
      refine lv_iload_n hx hb dX8_byTaking_39 rfl (lv_at hl 4 rfl) ?_
      refine ro_i (D := D) (va_runV (As := [.int (nI sn), .int p0, .int (nI i)]) (rest := []) ⟨hx, hb, hml, hown, hts⟩ ((m_takingOf l D k st lo a tx t0 we rd ru rw ca fp wd nu na ts df db sd dn se tm gs fprices sn i p0 (by omega) (by omega)) H.size) (cwV 3 hts (gV tw_1222 tw_1224 tw_43 tw_87 tw_1225) rfl rfl rfl (by decide +kernel) ⟨Nat.le_of_ble_eq_true rfl, Nat.le_of_ble_eq_true rfl⟩) (pV hS hAlo hlo hP hK hDL hZ [0, 1, 2, 3] (by decide) rfl (ci := 8) (q := (RX8, TX8, 44)) (q0 := 0) rfl rfl) rfl rfl hl.1 rfl (lv_room (Nat.le_of_ble_eq_true rfl)) dX8_byTaking_40 ⟨Nat.le_of_ble_eq_true rfl, Nat.le_of_ble_eq_true rfl⟩) hS hA hP (fun r_8 H locs hw_8 hP hS => ?_)
      try dsimp only at hw_8
      refine lv_goto (tgt := 64) hx hb dX8_byTaking_43 (by decide) ?_
      exact W.iret (v := r_8) hx hb hr (fun t ht hW => ⟨⟨r_8, (), rfl, trivial, trivial⟩, hS.F ht⟩) hS.2.2 dX8_byTaking_64
  · refine lv_iconst (v := 1) hx hb dX8_byTaking_24 (by decide) ?_
    refine lv_goto (tgt := 29) hx hb dX8_byTaking_25 (by decide) ?_
    refine lv_istore (lv' := [(5, .int 1), (0, .ref (a 0)), (1, .int (nI sn)), (2, .int p0), (3, .int (nI i)), (4, .int p3)]) hx hb dX8_byTaking_29 hl (by decide) rfl (fun ls hl => ?_)
    refine lv_iload hx hb dX8_byTaking_31 (lv_at hl 5 rfl) ?_
    refine lv_if_ne (tgt := 46) hx hb dX8_byTaking_33 (by decide) (fun c_9 => ?_) (fun c_9 => ?_)
    · refine lv_iload hx hb dX8_byTaking_46 (lv_at hl 5 rfl) ?_
      refine lv_iconst (v := 1) hx hb dX8_byTaking_48 (by decide) ?_
      refine lv_icmp_ne (tgt := 63) hx hb dX8_byTaking_49 (by decide) (fun c_10 => ?_) (fun c_10 => ?_)
      · refine lv_iconst (v := 0) hx hb dX8_byTaking_63 (by decide) ?_
        exact W.iret (v := 0) hx hb hr (fun t ht hW => ⟨⟨0, (), rfl, trivial, trivial⟩, hS.F ht⟩) hS.2.2 dX8_byTaking_64
      · refine lv_iload hx hb dX8_byTaking_52 (lv_at hl 0 rfl) ?_
        refine lv_if_eq (tgt := 63) hx hb dX8_byTaking_54 (by decide) (fun h => absurd h (by decide)) (fun _ => ?_)
        refine lv_ldcw hx hb hown (hts _ tw_1337) dX8_byTaking_57 ?_
        refine lv_goto (tgt := 64) hx hb dX8_byTaking_60 (by decide) ?_
        exact W.iret (v := 1000000) hx hb hr (fun t ht hW => ⟨⟨1000000, (), rfl, trivial, trivial⟩, hS.F ht⟩) hS.2.2 dX8_byTaking_64
    · refine lv_aload_n hx hb dX8_byTaking_36 rfl (lv_at hl 1 rfl) ?_
      refine lv_iload_n hx hb dX8_byTaking_37 rfl (lv_at hl 2 rfl) ?_
      refine lv_iload_n hx hb dX8_byTaking_38 rfl (lv_at hl 3 rfl) ?_
      refine lv_iload_n hx hb dX8_byTaking_39 rfl (lv_at hl 4 rfl) ?_
      refine ro_i (D := D) (va_runV (As := [.int (nI sn), .int p0, .int (nI i)]) (rest := []) ⟨hx, hb, hml, hown, hts⟩ ((m_takingOf l D k st lo a tx t0 we rd ru rw ca fp wd nu na ts df db sd dn se tm gs fprices sn i p0 (by omega) (by omega)) H.size) (cwV 3 hts (gV tw_1222 tw_1224 tw_43 tw_87 tw_1225) rfl rfl rfl (by decide +kernel) ⟨Nat.le_of_ble_eq_true rfl, Nat.le_of_ble_eq_true rfl⟩) (pV hS hAlo hlo hP hK hDL hZ [0, 1, 2, 3] (by decide) rfl (ci := 8) (q := (RX8, TX8, 44)) (q0 := 0) rfl rfl) rfl rfl hl.1 rfl (lv_room (Nat.le_of_ble_eq_true rfl)) dX8_byTaking_40 ⟨Nat.le_of_ble_eq_true rfl, Nat.le_of_ble_eq_true rfl⟩) hS hA hP (fun r_11 H locs hw_11 hP hS => ?_)
      try dsimp only at hw_11
      refine lv_goto (tgt := 64) hx hb dX8_byTaking_43 (by decide) ?_
      exact W.iret (v := r_11) hx hb hr (fun t ht hW => ⟨⟨r_11, (), rfl, trivial, trivial⟩, hS.F ht⟩) hS.2.2 dX8_byTaking_64

theorem dX8_byGarage_0 : decode cX8_byGarage 0 = .ok (.aload_n 0, 1) := by decide +kernel
theorem dX8_byGarage_1 : decode cX8_byGarage 1 = .ok (.iload_n 1, 1) := by decide +kernel
theorem dX8_byGarage_2 : decode cX8_byGarage 2 = .ok (.aload_n 0, 1) := by decide +kernel
theorem dX8_byGarage_3 : decode cX8_byGarage 3 = .ok (.iload_n 1, 1) := by decide +kernel
theorem dX8_byGarage_4 : decode cX8_byGarage 4 = .ok (.iload_n 2, 1) := by decide +kernel
theorem dX8_byGarage_5 : decode cX8_byGarage 5 = .ok (.aload_n 0, 1) := by decide +kernel
theorem dX8_byGarage_6 : decode cX8_byGarage 6 = .ok (.getfield 7, 3) := by decide +kernel
theorem dX8_byGarage_9 : decode cX8_byGarage 9 = .ok (.iload_n 1, 1) := by decide +kernel
theorem dX8_byGarage_10 : decode cX8_byGarage 10 = .ok (.iaload, 1) := by decide +kernel
theorem dX8_byGarage_11 : decode cX8_byGarage 11 = .ok (.invokevirtual 223, 3) := by decide +kernel
theorem dX8_byGarage_14 : decode cX8_byGarage 14 = .ok (.invokevirtual 227, 3) := by decide +kernel
theorem dX8_byGarage_17 : decode cX8_byGarage 17 = .ok (.ifCond .le 7, 3) := by decide +kernel
theorem dX8_byGarage_20 : decode cX8_byGarage 20 = .ok (.iconst 1, 1) := by decide +kernel
theorem dX8_byGarage_21 : decode cX8_byGarage 21 = .ok (.goto 4, 3) := by decide +kernel
theorem dX8_byGarage_24 : decode cX8_byGarage 24 = .ok (.iconst 0, 1) := by decide +kernel
theorem dX8_byGarage_25 : decode cX8_byGarage 25 = .ok (.istore 4, 2) := by decide +kernel
theorem dX8_byGarage_27 : decode cX8_byGarage 27 = .ok (.iload_n 3, 1) := by decide +kernel
theorem dX8_byGarage_28 : decode cX8_byGarage 28 = .ok (.ifCond .ne 12, 3) := by decide +kernel
theorem dX8_byGarage_31 : decode cX8_byGarage 31 = .ok (.aload_n 0, 1) := by decide +kernel
theorem dX8_byGarage_32 : decode cX8_byGarage 32 = .ok (.iload_n 1, 1) := by decide +kernel
theorem dX8_byGarage_33 : decode cX8_byGarage 33 = .ok (.iload_n 2, 1) := by decide +kernel
theorem dX8_byGarage_34 : decode cX8_byGarage 34 = .ok (.invokevirtual 248, 3) := by decide +kernel
theorem dX8_byGarage_37 : decode cX8_byGarage 37 = .ok (.goto 20, 3) := by decide +kernel
theorem dX8_byGarage_40 : decode cX8_byGarage 40 = .ok (.iload_n 3, 1) := by decide +kernel
theorem dX8_byGarage_41 : decode cX8_byGarage 41 = .ok (.iconst 2, 1) := by decide +kernel
theorem dX8_byGarage_42 : decode cX8_byGarage 42 = .ok (.if_icmp .eq 8, 3) := by decide +kernel
theorem dX8_byGarage_45 : decode cX8_byGarage 45 = .ok (.iload 4, 2) := by decide +kernel
theorem dX8_byGarage_47 : decode cX8_byGarage 47 = .ok (.ifCond .eq 9, 3) := by decide +kernel
theorem dX8_byGarage_50 : decode cX8_byGarage 50 = .ok (.ldc_w 285, 3) := by decide +kernel
theorem dX8_byGarage_53 : decode cX8_byGarage 53 = .ok (.goto 4, 3) := by decide +kernel
theorem dX8_byGarage_56 : decode cX8_byGarage 56 = .ok (.iconst 0, 1) := by decide +kernel
theorem dX8_byGarage_57 : decode cX8_byGarage 57 = .ok (.ireturn, 1) := by decide +kernel
set_option maxHeartbeats 4000000 in
set_option maxRecDepth 100000 in
theorem m_byGarage (l : Launch) (D : va_G) (k : Nat → ClassId) (st : Nat → Nat) (lo : Nat) (a : Nat → Nat) (tx : Nat) (t0 : Nat) (we : Nat) (rd : Nat) (ru : Nat) (rw : Nat) (ca : Nat) (fp : Int32) (wd : Int64) (nu : Int32) (na : Int32) (ts : Int32) (df : Int32) (db : Int32) (sd : Int32) (dn : Nat → Nat) (se : Nat → Nat) (tm : Nat → Nat) (gs : Nat → Int32) (sn : Nat) (p0 : Int32) (p3 : Int32)  (hs : sn < 3) : CRi l D k st lo yX8_byGarage cX8_byGarage 5 (some .int) ({ frames := 3, cells := 0, slots := 0, locals := 67 }) [.ref (a 0), .int (nI sn), .int p0, .int p3] [((a 0), .inr (8, (fX8 a (nI tx) fp (nI t0) wd (nI we) nu na (nI rd) ts (nI ru) (nI rw) (nI ca) df db sd))), (aI k (a 1) 3 (nF dn)), (aI k (a 4) 27 (sg se tm gs))] (fun r => True) := by
  intro sz
  refine Met.ofW (cc := cX8_byGarage) (maxL := 5) (ret := (some .int)) (by decide) rfl ?_
  intro p e s m args below meth c s₁ B hml hv
  obtain ⟨rfl, hsz, hlo, hP, hK, hDL, hZ⟩ := hv
  have hx := B.exec
  have hb := B.bytes
  have hr := B.returns
  have hts := WS_ts B.pre
  have hown : s.vm.findClass RX8 = some m.cls := findClass_of_methodNamed B.named
  have hlocks := B.notSynchronized
  subst hsz
  have hA : ∀ q : Nat, s.heap.size ≤ q → (fun q : Nat => s.heap.size ≤ q) q := fun _ h => h
  have hAlo : ∀ q : Nat, (fun q : Nat => s.heap.size ≤ q) q → lo ≤ q := fun q h => Nat.le_trans hlo h
  have hS : va_S (fun q : Nat => s.heap.size ≤ q) s.heap s.heap [] := va_S.rf
  have hl := lv_entry ([.ref (a 0), .int (nI sn), .int p0, .int p3]) (n := 5) (Nat.le_of_ble_eq_true rfl)
  rw [lg_entry_eq]
  generalize (lg_sl ([.ref (a 0), .int (nI sn), .int p0, .int p3]) ++ List.replicate (5 - (lg_sl ([.ref (a 0), .int (nI sn), .int p0, .int p3])).length) Slot.unset).toArray = ls at hl ⊢
  have hl : lv_has ls 5 [(0, .ref (a 0)), (1, .int (nI sn)), (2, .int p0), (3, .int p3)] := hl
  refine lv_aload_n hx hb dX8_byGarage_0 rfl (lv_at hl 0 rfl) ?_
  refine lv_iload_n hx hb dX8_byGarage_1 rfl (lv_at hl 1 rfl) ?_
  refine lv_aload_n hx hb dX8_byGarage_2 rfl (lv_at hl 0 rfl) ?_
  refine lv_iload_n hx hb dX8_byGarage_3 rfl (lv_at hl 1 rfl) ?_
  refine lv_iload_n hx hb dX8_byGarage_4 rfl (lv_at hl 2 rfl) ?_
  refine lv_aload_n hx hb dX8_byGarage_5 rfl (lv_at hl 0 rfl) ?_
  refine va_get (D := D) (ci := 8) (v := .ref (a 1)) (C := RX8) (T := TX8) (N := 44) hx hb hts inX8 hown hK hP 0 rfl rfl 0 (by decide) (hts _ tw_973) (fun _ h9 => h9) rfl dX8_byGarage_6 ?_
  refine lv_iload_n hx hb dX8_byGarage_9 rfl (lv_at hl 1 rfl) ?_
  refine va_iald hx hb hK hP 1 1 rfl rfl (vp_in_nI (by omega) (by decide)) dX8_byGarage_10 ?_
  refine lv_ti (y := (nI (dn sn))) (by rw [nI_clamp (by omega)]; rfl) ?_
  refine ro_i (D := D) (va_runV (As := [.int (nI sn), .int p0, .int (nI (dn sn))]) (rest := [.int (nI sn), .ref (a 0)]) ⟨hx, hb, hml, hown, hts⟩ ((m_tick l D k st lo a tx t0 we rd ru rw ca fp wd nu na ts df db sd dn se tm gs sn p0 (nI (dn sn)) (by omega)) s.heap.size) (cwV 3 hts (gV tw_1230 tw_1232 tw_45 tw_87 tw_1233) rfl rfl rfl (by decide +kernel) ⟨Nat.le_of_ble_eq_true rfl, Nat.le_of_ble_eq_true rfl⟩) (pV hS hAlo hlo hP hK hDL hZ [0, 1, 2] (by decide) rfl (ci := 8) (q := (RX8, TX8, 44)) (q0 := 0) rfl rfl) rfl rfl hl.1 rfl (lv_room (Nat.le_of_ble_eq_true rfl)) dX8_byGarage_11 ⟨Nat.le_of_ble_eq_true rfl, Nat.le_of_ble_eq_true rfl⟩) hS hA hP (fun r_1 H locs hw_1 hP hS => ?_)
  try dsimp only at hw_1
  refine ro_i (D := D) (va_runV (As := [.int (nI sn), .int r_1]) (rest := []) ⟨hx, hb, hml, hown, hts⟩ ((m_lateAt l D k st lo a tx t0 we rd ru rw ca fp wd nu na ts df db sd se tm gs sn r_1 (by omega)) H.size) (cwV 2 hts (gV tw_1234 tw_1236 tw_46 tw_87 tw_1237) rfl rfl rfl (by decide +kernel) ⟨Nat.le_of_ble_eq_true rfl, Nat.le_of_ble_eq_true rfl⟩) (pV hS hAlo hlo hP hK hDL hZ [0, 2] (by decide) rfl (ci := 8) (q := (RX8, TX8, 44)) (q0 := 0) rfl rfl) rfl rfl hl.1 rfl (lv_room (Nat.le_of_ble_eq_true rfl)) dX8_byGarage_14 ⟨Nat.le_of_ble_eq_true rfl, Nat.le_of_ble_eq_true rfl⟩) hS hA hP (fun r_2 H locs hw_2 hP hS => ?_)
  try dsimp only at hw_2
  refine lv_if_le (tgt := 24) hx hb dX8_byGarage_17 (by decide) (fun c_3 => ?_) (fun c_3 => ?_)
  · refine lv_iconst (v := 0) hx hb dX8_byGarage_24 (by decide) ?_
    refine lv_istore (lv' := [(4, .int 0), (0, .ref (a 0)), (1, .int (nI sn)), (2, .int p0), (3, .int p3)]) hx hb dX8_byGarage_25 hl (by decide) rfl (fun ls hl => ?_)
    refine lv_iload_n hx hb dX8_byGarage_27 rfl (lv_at hl 4 rfl) ?_
    refine lv_if_ne (tgt := 40) hx hb dX8_byGarage_28 (by decide) (fun c_4 => ?_) (fun c_4 => ?_)
    · refine lv_iload_n hx hb dX8_byGarage_40 rfl (lv_at hl 4 rfl) ?_
      refine lv_iconst (v := 2) hx hb dX8_byGarage_41 (by decide) ?_
      refine lv_icmp_eq (tgt := 50) hx hb dX8_byGarage_42 (by decide) (fun c_5 => ?_) (fun c_5 => ?_)
      · refine lv_ldcw hx hb hown (hts _ tw_1337) dX8_byGarage_50 ?_
        refine lv_goto (tgt := 57) hx hb dX8_byGarage_53 (by decide) ?_
        exact W.iret (v := 1000000) hx hb hr (fun t ht hW => ⟨⟨1000000, (), rfl, trivial, trivial⟩, hS.F ht⟩) hS.2.2 dX8_byGarage_57
      · refine lv_iload hx hb dX8_byGarage_45 (lv_at hl 0 rfl) ?_
        refine lv_if_eq (tgt := 56) hx hb dX8_byGarage_47 (by decide) (fun _ => ?_) (fun h => absurd (by decide) h)
        refine lv_iconst (v := 0) hx hb dX8_byGarage_56 (by decide) ?_
        exact W.iret (v := 0) hx hb hr (fun t ht hW => ⟨⟨0, (), rfl, trivial, trivial⟩, hS.F ht⟩) hS.2.2 dX8_byGarage_57
    · refine lv_aload_n hx hb dX8_byGarage_31 rfl (lv_at hl 1 rfl) ?_
      refine lv_iload_n hx hb dX8_byGarage_32 rfl (lv_at hl 2 rfl) ?_
      refine lv_iload_n hx hb dX8_byGarage_33 rfl (lv_at hl 3 rfl) ?_
      refine ro_i (D := D) (va_runV (As := [.int (nI sn), .int p0]) (rest := []) ⟨hx, hb, hml, hown, hts⟩ ((m_garageOf l D k st lo a tx t0 we rd ru rw ca fp wd nu na ts df db sd dn se tm gs sn p0 (by omega)) H.size) (cwV 2 hts (gV tw_1258 tw_1260 tw_51 tw_87 tw_1261) rfl rfl rfl (by decide +kernel) ⟨Nat.le_of_ble_eq_true rfl, Nat.le_of_ble_eq_true rfl⟩) (pV hS hAlo hlo hP hK hDL hZ [0, 1, 2] (by decide) rfl (ci := 8) (q := (RX8, TX8, 44)) (q0 := 0) rfl rfl) rfl rfl hl.1 rfl (lv_room (Nat.le_of_ble_eq_true rfl)) dX8_byGarage_34 ⟨Nat.le_of_ble_eq_true rfl, Nat.le_of_ble_eq_true rfl⟩) hS hA hP (fun r_6 H locs hw_6 hP hS => ?_)
      try dsimp only at hw_6
      refine lv_goto (tgt := 57) hx hb dX8_byGarage_37 (by decide) ?_
      exact W.iret (v := r_6) hx hb hr (fun t ht hW => ⟨⟨r_6, (), rfl, trivial, trivial⟩, hS.F ht⟩) hS.2.2 dX8_byGarage_57
  · refine lv_iconst (v := 1) hx hb dX8_byGarage_20 (by decide) ?_
    refine lv_goto (tgt := 25) hx hb dX8_byGarage_21 (by decide) ?_
    refine lv_istore (lv' := [(4, .int 1), (0, .ref (a 0)), (1, .int (nI sn)), (2, .int p0), (3, .int p3)]) hx hb dX8_byGarage_25 hl (by decide) rfl (fun ls hl => ?_)
    refine lv_iload_n hx hb dX8_byGarage_27 rfl (lv_at hl 4 rfl) ?_
    refine lv_if_ne (tgt := 40) hx hb dX8_byGarage_28 (by decide) (fun c_7 => ?_) (fun c_7 => ?_)
    · refine lv_iload_n hx hb dX8_byGarage_40 rfl (lv_at hl 4 rfl) ?_
      refine lv_iconst (v := 2) hx hb dX8_byGarage_41 (by decide) ?_
      refine lv_icmp_eq (tgt := 50) hx hb dX8_byGarage_42 (by decide) (fun c_8 => ?_) (fun c_8 => ?_)
      · refine lv_ldcw hx hb hown (hts _ tw_1337) dX8_byGarage_50 ?_
        refine lv_goto (tgt := 57) hx hb dX8_byGarage_53 (by decide) ?_
        exact W.iret (v := 1000000) hx hb hr (fun t ht hW => ⟨⟨1000000, (), rfl, trivial, trivial⟩, hS.F ht⟩) hS.2.2 dX8_byGarage_57
      · refine lv_iload hx hb dX8_byGarage_45 (lv_at hl 0 rfl) ?_
        refine lv_if_eq (tgt := 56) hx hb dX8_byGarage_47 (by decide) (fun h => absurd h (by decide)) (fun _ => ?_)
        refine lv_ldcw hx hb hown (hts _ tw_1337) dX8_byGarage_50 ?_
        refine lv_goto (tgt := 57) hx hb dX8_byGarage_53 (by decide) ?_
        exact W.iret (v := 1000000) hx hb hr (fun t ht hW => ⟨⟨1000000, (), rfl, trivial, trivial⟩, hS.F ht⟩) hS.2.2 dX8_byGarage_57
    · refine lv_aload_n hx hb dX8_byGarage_31 rfl (lv_at hl 1 rfl) ?_
      refine lv_iload_n hx hb dX8_byGarage_32 rfl (lv_at hl 2 rfl) ?_
      refine lv_iload_n hx hb dX8_byGarage_33 rfl (lv_at hl 3 rfl) ?_
      refine ro_i (D := D) (va_runV (As := [.int (nI sn), .int p0]) (rest := []) ⟨hx, hb, hml, hown, hts⟩ ((m_garageOf l D k st lo a tx t0 we rd ru rw ca fp wd nu na ts df db sd dn se tm gs sn p0 (by omega)) H.size) (cwV 2 hts (gV tw_1258 tw_1260 tw_51 tw_87 tw_1261) rfl rfl rfl (by decide +kernel) ⟨Nat.le_of_ble_eq_true rfl, Nat.le_of_ble_eq_true rfl⟩) (pV hS hAlo hlo hP hK hDL hZ [0, 1, 2] (by decide) rfl (ci := 8) (q := (RX8, TX8, 44)) (q0 := 0) rfl rfl) rfl rfl hl.1 rfl (lv_room (Nat.le_of_ble_eq_true rfl)) dX8_byGarage_34 ⟨Nat.le_of_ble_eq_true rfl, Nat.le_of_ble_eq_true rfl⟩) hS hA hP (fun r_9 H locs hw_9 hP hS => ?_)
      try dsimp only at hw_9
      refine lv_goto (tgt := 57) hx hb dX8_byGarage_37 (by decide) ?_
      exact W.iret (v := r_9) hx hb hr (fun t ht hW => ⟨⟨r_9, (), rfl, trivial, trivial⟩, hS.F ht⟩) hS.2.2 dX8_byGarage_57


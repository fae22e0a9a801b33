def fM_chance (ffrees : Nat → Int32) (se : Nat → Nat) (tm : Nat → Nat) (gs : Nat → Int32) (sn : Nat) (i : Nat) (pz : Int32) : Int32 := (if 0 ≤ (if i = 0 then (ffrees (24 * sn + i)) else (if pz = 0 then ((ffrees (24 * sn + i)) - (sg se tm gs (9 * sn + 0))) else ((ffrees (24 * sn + i)) + (sg se tm gs (9 * sn + 0))))) then (if (if i = 0 then (ffrees (24 * sn + i)) else (if pz = 0 then ((ffrees (24 * sn + i)) - (sg se tm gs (9 * sn + 0))) else ((ffrees (24 * sn + i)) + (sg se tm gs (9 * sn + 0))))) ≤ 100 then (if i = 0 then (ffrees (24 * sn + i)) else (if pz = 0 then ((ffrees (24 * sn + i)) - (sg se tm gs (9 * sn + 0))) else ((ffrees (24 * sn + i)) + (sg se tm gs (9 * sn + 0))))) else 100) else 0)
set_option maxHeartbeats 4000000 in
set_option maxRecDepth 100000 in
theorem n_chanceOf (l : Launch) (D : va_G) (k : Nat → ClassId) (st : Nat → Nat) (lo : Nat) (a : Nat → Nat) (tx : Nat) (t0 : Nat) (we : Nat) (rd : Nat) (ru : Nat) (rw : Nat) (ca : Nat) (fp : Int32) (wd : Int64) (nu : Int32) (na : Int32) (ts : Int32) (df : Int32) (db : Int32) (sd : Int32) (ffrees : Nat → Int32) (se : Nat → Nat) (tm : Nat → Nat) (gs : Nat → Int32) (sn : Nat) (i : Nat) (pz : Int32)  (hs : sn < 3) (hi : i < 24) : CRi l D k st lo yX8_chanceOf cX8_chanceOf 6 (some .int) ({ frames := 1, cells := 0, slots := 0, locals := 22 }) [.ref (a 0), .int (nI sn), .int (nI i), .int pz] [((a 0), .inr (8, (fX8 a (nI tx) fp (nI t0) wd (nI we) nu na (nI rd) ts (nI ru) (nI rw) (nI ca) df db sd))), (aI k (a 2) 72 ffrees), (aI k (a 4) 27 (sg se tm gs))] (fun r => r = fM_chance ffrees se tm gs sn i pz) := by
  intro sz
  refine Met.ofW (cc := cX8_chanceOf) (maxL := 6) (ret := (some .int)) (by decide) rfl ?_
  intro p e s m args below meth c s₁ B hml hv
  obtain ⟨rfl, hsz, hlo, hP, hK, hDL, hZ⟩ := hv
  have hx := B.exec
  have hb := B.bytes
  have hr := B.returns
  have hts := WS_ts B.pre
  have hown : s.vm.findClass RX8 = some m.cls := findClass_of_methodNamed B.named
  have hlocks := B.notSynchronized
  subst hsz
  have hA : ∀ q : Nat, s.heap.size ≤ q → (fun q : Nat => s.heap.size ≤ q) q := fun _ h => h
  have hAlo : ∀ q : Nat, (fun q : Nat => s.heap.size ≤ q) q → lo ≤ q := fun q h => Nat.le_trans hlo h
  have hS : va_S (fun q : Nat => s.heap.size ≤ q) s.heap s.heap [] := va_S.rf
  have hl := lv_entry ([.ref (a 0), .int (nI sn), .int (nI i), .int pz]) (n := 6) (Nat.le_of_ble_eq_true rfl)
  rw [lg_entry_eq]
  generalize (lg_sl ([.ref (a 0), .int (nI sn), .int (nI i), .int pz]) ++ List.replicate (6 - (lg_sl ([.ref (a 0), .int (nI sn), .int (nI i), .int pz])).length) Slot.unset).toArray = ls at hl ⊢
  have hl : lv_has ls 6 [(0, .ref (a 0)), (1, .int (nI sn)), (2, .int (nI i)), (3, .int pz)] := hl
  refine lv_aload_n hx hb dX8_chanceOf_0 rfl (lv_at hl 0 rfl) ?_
  refine va_get (D := D) (ci := 8) (v := .ref (a 2)) (C := RX8) (T := TX8) (N := 44) hx hb hts inX8 hown hK hP 0 rfl rfl 1 (by decide) (hts _ tw_974) (fun _ h9 => h9) rfl dX8_chanceOf_1 ?_
  refine lv_bipush (v := 24) hx hb dX8_chanceOf_4 (by decide) ?_
  refine lv_iload_n hx hb dX8_chanceOf_6 rfl (lv_at hl 1 rfl) ?_
  refine lv_imul hx hb dX8_chanceOf_7 ?_
  refine lv_ti (y := (nI (24 * sn))) (pk_mul 24 sn) ?_
  refine lv_iload_n hx hb dX8_chanceOf_8 rfl (lv_at hl 2 rfl) ?_
  refine lv_iadd hx hb dX8_chanceOf_9 ?_
  refine lv_ti (y := (nI (24 * sn + i))) (nI_add (24 * sn) i) ?_
  refine va_iald hx hb hK hP 1 1 rfl rfl (vp_in_nI (by omega) (by decide)) dX8_chanceOf_10 ?_
  refine lv_ti (y := (ffrees (24 * sn + i))) (by rw [nI_clamp (by omega)]) ?_
  refine lv_istore (lv' := [(4, .int (ffrees (24 * sn + i))), (0, .ref (a 0)), (1, .int (nI sn)), (2, .int (nI i)), (3, .int pz)]) hx hb dX8_chanceOf_11 hl (by decide) rfl (fun ls hl => ?_)
  refine lv_iload_n hx hb dX8_chanceOf_13 rfl (lv_at hl 3 rfl) ?_
  refine W_join (fun (x_7 : Int32) (H : Heap) (locs : List Loc) (ls : Array Slot) => x_7 = (if i = 0 then (ffrees (24 * sn + i)) else (if pz = 0 then ((ffrees (24 * sn + i)) - (sg se tm gs (9 * sn + 0))) else ((ffrees (24 * sn + i)) + (sg se tm gs (9 * sn + 0))))) ∧ va_P D classes [((a 0), .inr (8, (fX8 a (nI tx) fp (nI t0) wd (nI we) nu na (nI rd) ts (nI ru) (nI rw) (nI ca) df db sd))), (aI k (a 2) 72 ffrees), (aI k (a 4) 27 (sg se tm gs))] H ∧ va_S (fun q : Nat => s.heap.size ≤ q) s.heap H locs ∧ lv_has ls 6 [(4, .int (ffrees (24 * sn + i))), (3, .int pz), (2, .int (nI i)), (1, .int (nI sn)), (0, .ref (a 0))]) (fun (x_7 : Int32) => [.int x_7]) 47 (fun x_7 H locs ls hJ => ?_) (fun J_7 => ?_)
  · obtain ⟨hj_7, hP, hS, hl⟩ := hJ
    show W p l e _ s m _ below meth c H locs _ _ _ (F0 m 47 ls [.int x_7])
    refine lv_istore (lv' := [(5, .int x_7), (4, .int (ffrees (24 * sn + i))), (3, .int pz), (2, .int (nI i)), (1, .int (nI sn)), (0, .ref (a 0))]) hx hb dX8_chanceOf_47 hl (by decide) rfl (fun ls hl => ?_)
    refine lv_iload hx hb dX8_chanceOf_49 (lv_at hl 0 rfl) ?_
    refine W_join (fun (x_10 : Int32) (H : Heap) (locs : List Loc) (ls : Array Slot) => x_10 = (if 0 ≤ x_7 then (if x_7 ≤ 100 then x_7 else 100) else 0) ∧ va_P D classes [((a 0), .inr (8, (fX8 a (nI tx) fp (nI t0) wd (nI we) nu na (nI rd) ts (nI ru) (nI rw) (nI ca) df db sd))), (aI k (a 2) 72 ffrees), (aI k (a 4) 27 (sg se tm gs))] H ∧ va_S (fun q : Nat => s.heap.size ≤ q) s.heap H locs ∧ lv_has ls 6 [(5, .int x_7), (4, .int (ffrees (24 * sn + i))), (3, .int pz), (2, .int (nI i)), (1, .int (nI sn)), (0, .ref (a 0))]) (fun (x_10 : Int32) => [.int x_10]) 72 (fun x_10 H locs ls hJ => ?_) (fun J_10 => ?_)
    · obtain ⟨hj_10, hP, hS, hl⟩ := hJ
      show W p l e _ s m _ below meth c H locs _ _ _ (F0 m 72 ls [.int x_10])
      exact W.iret (v := x_10) hx hb hr (fun t ht hW => ⟨⟨x_10, (), rfl, (by show _ = fM_chance ffrees se tm gs sn i pz; unfold fM_chance; first | (rw [hj_10, hj_7]; done) | (rw [hj_10, hj_7]; rfl) | (simp only [hj_10, hj_7]; done)), trivial⟩, hS.F ht⟩) hS.2.2 dX8_chanceOf_72
    · refine lv_if_ge (tgt := 58) hx hb dX8_chanceOf_51 (by decide) (fun c_11 => ?_) (fun c_11 => ?_)
      · refine lv_iload hx hb dX8_chanceOf_58 (lv_at hl 0 rfl) ?_
        refine lv_bipush (v := 100) hx hb dX8_chanceOf_60 (by decide) ?_
        refine lv_icmp_le (tgt := 70) hx hb dX8_chanceOf_62 (by decide) (fun c_12 => ?_) (fun c_12 => ?_)
        · refine lv_iload hx hb dX8_chanceOf_70 (lv_at hl 0 rfl) ?_
          exact J_10 x_7 _ _ _ ⟨(by first | (rw [if_pos c_11, if_pos c_12]; done) | (rw [if_pos c_11, if_pos c_12]; rfl) | (simp only [if_pos c_11, if_pos c_12]; done)), hP, hS, lv_sub hl [0, 1, 2, 3, 4, 5] rfl⟩
        · refine lv_bipush (v := 100) hx hb dX8_chanceOf_65 (by decide) ?_
          refine lv_goto (tgt := 72) hx hb dX8_chanceOf_67 (by decide) ?_
          exact J_10 100 _ _ _ ⟨(by first | (rw [if_pos c_11, if_neg c_12]; done) | (rw [if_pos c_11, if_neg c_12]; rfl) | (simp only [if_pos c_11, if_neg c_12]; done)), hP, hS, lv_sub hl [0, 1, 2, 3, 4, 5] rfl⟩
      · refine lv_iconst (v := 0) hx hb dX8_chanceOf_54 (by decide) ?_
        refine lv_goto (tgt := 72) hx hb dX8_chanceOf_55 (by decide) ?_
        exact J_10 0 _ _ _ ⟨(by first | (rw [if_neg c_11]; done) | (rw [if_neg c_11]; rfl) | (simp only [if_neg c_11]; done)), hP, hS, lv_sub hl [0, 1, 2, 3, 4, 5] rfl⟩
  · refine lv_if_ne (tgt := 22) hx hb dX8_chanceOf_14 (by decide) (fun c_13 => ?_) (fun c_13 => ?_)
    · have c_13 : ¬ (i = 0) := fun h => c_13 ((nI_eq (a := i) (b := 0) (by omega) (by omega)).mpr h)
      refine lv_iload_n hx hb dX8_chanceOf_22 rfl (lv_at hl 4 rfl) ?_
      refine lv_if_eq (tgt := 38) hx hb dX8_chanceOf_23 (by decide) (fun c_14 => ?_) (fun c_14 => ?_)
      · refine lv_iload hx hb dX8_chanceOf_38 (lv_at hl 0 rfl) ?_
        refine lv_aload_n hx hb dX8_chanceOf_40 rfl (lv_at hl 1 rfl) ?_
        refine lv_iload_n hx hb dX8_chanceOf_41 rfl (lv_at hl 2 rfl) ?_
        refine lv_iconst (v := 0) hx hb dX8_chanceOf_42 (by decide) ?_
        refine ro_i (D := D) (va_runV (As := [.int (nI sn), .int 0]) (rest := [.int (ffrees (24 * sn + i))]) ⟨hx, hb, hml, hown, hts⟩ ((m_of l D k st lo a tx t0 we rd ru rw ca fp wd nu na ts df db sd se tm gs sn 0 (by omega) (by omega)) s.heap.size) (cwV 2 hts (gV tw_1194 tw_1196 tw_39 tw_87 tw_1197) rfl rfl rfl (by decide +kernel) ⟨Nat.le_of_ble_eq_true rfl, Nat.le_of_ble_eq_true rfl⟩) (pV hS hAlo hlo hP hK hDL hZ [0, 2] (by decide) rfl (ci := 8) (q := (RX8, TX8, 44)) (q0 := 0) rfl rfl) rfl rfl hl.1 rfl (lv_room (Nat.le_of_ble_eq_true rfl)) dX8_chanceOf_43 ⟨Nat.le_of_ble_eq_true rfl, Nat.le_of_ble_eq_true rfl⟩) hS hA hP (fun r_15 H locs hw_15 hP hS => ?_)
        try dsimp only at hw_15
        refine lv_isub hx hb dX8_chanceOf_46 ?_
        refine lv_topi (fun x_16 ex_16 => ?_)
        exact J_7 x_16 _ _ _ ⟨(by first | (rw [if_neg c_13, if_pos c_14, ex_16, hw_15]; done) | (rw [if_neg c_13, if_pos c_14, ex_16, hw_15]; rfl) | (simp only [if_neg c_13, if_pos c_14, ex_16, hw_15]; done)), hP, hS, lv_sub hl [0, 4, 3, 2, 1] rfl⟩
      · refine lv_iload hx hb dX8_chanceOf_26 (lv_at hl 0 rfl) ?_
        refine lv_aload_n hx hb dX8_chanceOf_28 rfl (lv_at hl 1 rfl) ?_
        refine lv_iload_n hx hb dX8_chanceOf_29 rfl (lv_at hl 2 rfl) ?_
        refine lv_iconst (v := 0) hx hb dX8_chanceOf_30 (by decide) ?_
        refine ro_i (D := D) (va_runV (As := [.int (nI sn), .int 0]) (rest := [.int (ffrees (24 * sn + i))]) ⟨hx, hb, hml, hown, hts⟩ ((m_of l D k st lo a tx t0 we rd ru rw ca fp wd nu na ts df db sd se tm gs sn 0 (by omega) (by omega)) s.heap.size) (cwV 2 hts (gV tw_1194 tw_1196 tw_39 tw_87 tw_1197) rfl rfl rfl (by decide +kernel) ⟨Nat.le_of_ble_eq_true rfl, Nat.le_of_ble_eq_true rfl⟩) (pV hS hAlo hlo hP hK hDL hZ [0, 2] (by decide) rfl (ci := 8) (q := (RX8, TX8, 44)) (q0 := 0) rfl rfl) rfl rfl hl.1 rfl (lv_room (Nat.le_of_ble_eq_true rfl)) dX8_chanceOf_31 ⟨Nat.le_of_ble_eq_true rfl, Nat.le_of_ble_eq_true rfl⟩) hS hA hP (fun r_17 H locs hw_17 hP hS => ?_)
        try dsimp only at hw_17
        refine lv_iadd hx hb dX8_chanceOf_34 ?_
        refine lv_topi (fun x_18 ex_18 => ?_)
        refine lv_goto (tgt := 47) hx hb dX8_chanceOf_35 (by decide) ?_
        exact J_7 x_18 _ _ _ ⟨(by first | (rw [if_neg c_13, if_neg c_14, ex_18, hw_17]; done) | (rw [if_neg c_13, if_neg c_14, ex_18, hw_17]; rfl) | (simp only [if_neg c_13, if_neg c_14, ex_18, hw_17]; done)), hP, hS, lv_sub hl [0, 4, 3, 2, 1] rfl⟩
    · have c_13 := (nI_eq (a := i) (b := 0) (by omega) (by omega)).mp c_13
      refine lv_iload hx hb dX8_chanceOf_17 (lv_at hl 0 rfl) ?_
      refine lv_goto (tgt := 47) hx hb dX8_chanceOf_19 (by decide) ?_
      exact J_7 (ffrees (24 * sn + i)) _ _ _ ⟨(by first | (rw [if_pos c_13]; done) | (rw [if_pos c_13]; rfl) | (simp only [if_pos c_13]; done)), hP, hS, lv_sub hl [0, 4, 3, 2, 1] rfl⟩


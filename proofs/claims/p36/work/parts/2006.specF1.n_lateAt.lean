def fM_late (se : Nat → Nat) (tm : Nat → Nat) (gs : Nat → Int32) (sn : Nat) (p0 : Int32) : Int32 := (if 0 ≤ (p0 - (sg se tm gs (9 * sn + 4))) then (p0 - (sg se tm gs (9 * sn + 4))) else 0)
set_option maxHeartbeats 4000000 in
set_option maxRecDepth 100000 in
theorem n_lateAt (l : Launch) (D : va_G) (k : Nat → ClassId) (st : Nat → Nat) (lo : Nat) (a : Nat → Nat) (tx : Nat) (t0 : Nat) (we : Nat) (rd : Nat) (ru : Nat) (rw : Nat) (ca : Nat) (fp : Int32) (wd : Int64) (nu : Int32) (na : Int32) (ts : Int32) (df : Int32) (db : Int32) (sd : Int32) (se : Nat → Nat) (tm : Nat → Nat) (gs : Nat → Int32) (sn : Nat) (p0 : Int32)  (hs : sn < 3) : CRi l D k st lo yX8_lateAt cX8_lateAt 4 (some .int) ({ frames := 1, cells := 0, slots := 0, locals := 22 }) [.ref (a 0), .int (nI sn), .int p0] [((a 0), .inr (8, (fX8 a (nI tx) fp (nI t0) wd (nI we) nu na (nI rd) ts (nI ru) (nI rw) (nI ca) df db sd))), (aI k (a 4) 27 (sg se tm gs))] (fun r => r = fM_late se tm gs sn p0) := by
  intro sz
  refine Met.ofW (cc := cX8_lateAt) (maxL := 4) (ret := (some .int)) (by decide) rfl ?_
  intro p e s m args below meth c s₁ B hml hv
  obtain ⟨rfl, hsz, hlo, hP, hK, hDL, hZ⟩ := hv
  have hx := B.exec
  have hb := B.bytes
  have hr := B.returns
  have hts := WS_ts B.pre
  have hown : s.vm.findClass RX8 = some m.cls := findClass_of_methodNamed B.named
  have hlocks := B.notSynchronized
  subst hsz
  have hA : ∀ q : Nat, s.heap.size ≤ q → (fun q : Nat => s.heap.size ≤ q) q := fun _ h => h
  have hAlo : ∀ q : Nat, (fun q : Nat => s.heap.size ≤ q) q → lo ≤ q := fun q h => Nat.le_trans hlo h
  have hS : va_S (fun q : Nat => s.heap.size ≤ q) s.heap s.heap [] := va_S.rf
  have hl := lv_entry ([.ref (a 0), .int (nI sn), .int p0]) (n := 4) (Nat.le_of_ble_eq_true rfl)
  rw [lg_entry_eq]
  generalize (lg_sl ([.ref (a 0), .int (nI sn), .int p0]) ++ List.replicate (4 - (lg_sl ([.ref (a 0), .int (nI sn), .int p0])).length) Slot.unset).toArray = ls at hl ⊢
  have hl : lv_has ls 4 [(0, .ref (a 0)), (1, .int (nI sn)), (2, .int p0)] := hl
  refine lv_iload_n hx hb dX8_lateAt_0 rfl (lv_at hl 2 rfl) ?_
  refine lv_aload_n hx hb dX8_lateAt_1 rfl (lv_at hl 0 rfl) ?_
  refine lv_iload_n hx hb dX8_lateAt_2 rfl (lv_at hl 1 rfl) ?_
  refine lv_iconst (v := 4) hx hb dX8_lateAt_3 (by decide) ?_
  refine ro_i (D := D) (va_runV (As := [.int (nI sn), .int 4]) (rest := [.int p0]) ⟨hx, hb, hml, hown, hts⟩ ((m_of l D k st lo a tx t0 we rd ru rw ca fp wd nu na ts df db sd se tm gs sn 4 (by omega) (by omega)) s.heap.size) (cwV 2 hts (gV tw_1194 tw_1196 tw_39 tw_87 tw_1197) rfl rfl rfl (by decide +kernel) ⟨Nat.le_of_ble_eq_true rfl, Nat.le_of_ble_eq_true rfl⟩) (pV hS hAlo hlo hP hK hDL hZ [0, 1] (by decide) rfl (ci := 8) (q := (RX8, TX8, 44)) (q0 := 0) rfl rfl) rfl rfl hl.1 rfl (lv_room (Nat.le_of_ble_eq_true rfl)) dX8_lateAt_4 ⟨Nat.le_of_ble_eq_true rfl, Nat.le_of_ble_eq_true rfl⟩) hS hA hP (fun r_1 H locs hw_1 hP hS => ?_)
  try dsimp only at hw_1
  refine lv_isub hx hb dX8_lateAt_7 ?_
  refine lv_topi (fun x_2 ex_2 => ?_)
  refine lv_istore_n (lv' := [(3, .int x_2), (0, .ref (a 0)), (1, .int (nI sn)), (2, .int p0)]) hx hb dX8_lateAt_8 rfl hl (by decide) rfl (fun ls hl => ?_)
  refine lv_iload_n hx hb dX8_lateAt_9 rfl (lv_at hl 0 rfl) ?_
  refine W_join (fun (x_4 : Int32) (H : Heap) (locs : List Loc) (ls : Array Slot) => x_4 = (if 0 ≤ x_2 then x_2 else 0) ∧ va_P D classes [((a 0), .inr (8, (fX8 a (nI tx) fp (nI t0) wd (nI we) nu na (nI rd) ts (nI ru) (nI rw) (nI ca) df db sd))), (aI k (a 4) 27 (sg se tm gs))] H ∧ va_S (fun q : Nat => s.heap.size ≤ q) s.heap H locs ∧ lv_has ls 4 [(3, .int x_2), (2, .int p0), (1, .int (nI sn)), (0, .ref (a 0))]) (fun (x_4 : Int32) => [.int x_4]) 18 (fun x_4 H locs ls hJ => ?_) (fun J_4 => ?_)
  · obtain ⟨hj_4, hP, hS, hl⟩ := hJ
    show W p l e _ s m _ below meth c H locs _ _ _ (F0 m 18 ls [.int x_4])
    exact W.iret (v := x_4) hx hb hr (fun t ht hW => ⟨⟨x_4, (), rfl, (by show _ = fM_late se tm gs sn p0; unfold fM_late; first | (rw [hj_4, ex_2, hw_1]; done) | (rw [hj_4, ex_2, hw_1]; rfl) | (simp only [hj_4, ex_2, hw_1]; done)), trivial⟩, hS.F ht⟩) hS.2.2 dX8_lateAt_18
  · refine lv_if_ge (tgt := 17) hx hb dX8_lateAt_10 (by decide) (fun c_5 => ?_) (fun c_5 => ?_)
    · refine lv_iload_n hx hb dX8_lateAt_17 rfl (lv_at hl 0 rfl) ?_
      exact J_4 x_2 _ _ _ ⟨(by first | (rw [if_pos c_5]; done) | (rw [if_pos c_5]; rfl) | (simp only [if_pos c_5]; done)), hP, hS, lv_sub hl [0, 3, 2, 1] rfl⟩
    · refine lv_iconst (v := 0) hx hb dX8_lateAt_13 (by decide) ?_
      refine lv_goto (tgt := 18) hx hb dX8_lateAt_14 (by decide) ?_
      exact J_4 0 _ _ _ ⟨(by first | (rw [if_neg c_5]; done) | (rw [if_neg c_5]; rfl) | (simp only [if_neg c_5]; done)), hP, hS, lv_sub hl [0, 3, 2, 1] rfl⟩


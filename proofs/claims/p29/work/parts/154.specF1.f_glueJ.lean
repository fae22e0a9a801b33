theorem f_glueJ : True := trivial
section JOIN
variable {p : Program} {l : Launch} {e : Env} {R : Room} {s : State} {m : MethodId} {args : Array Value} {below : List Frame} {meth : Method} {c : Code} {cells slots : Nat} {Q : State → Prop} {H0 : Heap} {locs0 : List Loc} {g0 : JFrame}
/-- both arms of a branch come to one place -/
theorem W_join {σ : Type} (J : σ → Heap → List Loc → Array Slot → Prop) (stk : σ → List Value) (pj : Nat)
    (k : ∀ (x : σ) (H : Heap) (locs : List Loc) (ls : Array Slot), J x H locs ls → W p l e R s m args below meth c H locs cells slots Q (F0 m pj ls (stk x)))
    (g : (∀ (x : σ) (H : Heap) (locs : List Loc) (ls : Array Slot), J x H locs ls → W p l e R s m args below meth c H locs cells slots Q (F0 m pj ls (stk x))) → W p l e R s m args below meth c H0 locs0 cells slots Q g0) : W p l e R s m args below meth c H0 locs0 cells slots Q g0 := g k
theorem W_join2 {σ τ : Type} (J : σ → τ → Heap → List Loc → Array Slot → Prop) (stk : σ → τ → List Value) (pj : Nat)
    (k : ∀ (x : σ) (y : τ) (H : Heap) (locs : List Loc) (ls : Array Slot), J x y H locs ls → W p l e R s m args below meth c H locs cells slots Q (F0 m pj ls (stk x y)))
    (g : (∀ (x : σ) (y : τ) (H : Heap) (locs : List Loc) (ls : Array Slot), J x y H locs ls → W p l e R s m args below meth c H locs cells slots Q (F0 m pj ls (stk x y))) → W p l e R s m args below meth c H0 locs0 cells slots Q g0) : W p l e R s m args below meth c H0 locs0 cells slots Q g0 := g k
theorem W_join0 (J : Heap → List Loc → Array Slot → Prop) (stk : List Value) (pj : Nat)
    (k : ∀ (H : Heap) (locs : List Loc) (ls : Array Slot), J H locs ls → W p l e R s m args below meth c H locs cells slots Q (F0 m pj ls stk))
    (g : (∀ (H : Heap) (locs : List Loc) (ls : Array Slot), J H locs ls → W p l e R s m args below meth c H locs cells slots Q (F0 m pj ls stk)) → W p l e R s m args below meth c H0 locs0 cells slots Q g0) : W p l e R s m args below meth c H0 locs0 cells slots Q g0 := g k
end JOIN


def fM_mixed (p0 : Int32) (p1 : Int32) (p2 : Int32) : Int32 := (((((p0.toInt64) * (p1.toInt64)) + ((100 - (p0.toInt64)) * (p2.toInt64))) / 100).toInt32)
set_option maxHeartbeats 4000000 in
set_option maxRecDepth 100000 in
theorem n_mixed (l : Launch) (D : va_G) (k : Nat → ClassId) (st : Nat → Nat) (lo : Nat) (p0 : Int32) (p1 : Int32) (p2 : Int32)  : CRi l D k st lo yX8_mixed cX8_mixed 3 (some .int) ({ frames := 0, cells := 0, slots := 0, locals := 0 }) [.int p0, .int p1, .int p2] [] (fun r => r = fM_mixed p0 p1 p2) := by
  intro sz
  refine Met.ofW (cc := cX8_mixed) (maxL := 3) (ret := (some .int)) (by decide) rfl ?_
  intro p e s m args below meth c s₁ B hml hv
  obtain ⟨rfl, hsz, hlo, hP, hK, hDL, hZ⟩ := hv
  have hx := B.exec
  have hb := B.bytes
  have hr := B.returns
  have hts := WS_ts B.pre
  have hown : s.vm.findClass RX8 = some m.cls := findClass_of_methodNamed B.named
  have hlocks := B.notSynchronized
  subst hsz
  have hA : ∀ q : Nat, s.heap.size ≤ q → (fun q : Nat => s.heap.size ≤ q) q := fun _ h => h
  have hAlo : ∀ q : Nat, (fun q : Nat => s.heap.size ≤ q) q → lo ≤ q := fun q h => Nat.le_trans hlo h
  have hS : va_S (fun q : Nat => s.heap.size ≤ q) s.heap s.heap [] := va_S.rf
  have hl := lv_entry ([.int p0, .int p1, .int p2]) (n := 3) (Nat.le_of_ble_eq_true rfl)
  rw [lg_entry_eq]
  generalize (lg_sl ([.int p0, .int p1, .int p2]) ++ List.replicate (3 - (lg_sl ([.int p0, .int p1, .int p2])).length) Slot.unset).toArray = ls at hl ⊢
  have hl : lv_has ls 3 [(0, .int p0), (1, .int p1), (2, .int p2)] := hl
  refine lv_iload_n hx hb dX8_mixed_0 rfl (lv_at hl 0 rfl) ?_
  refine lv_i2l (v := p0.toInt64) hx hb dX8_mixed_1 rfl ?_
  refine lv_iload_n hx hb dX8_mixed_2 rfl (lv_at hl 1 rfl) ?_
  refine lv_i2l (v := p1.toInt64) hx hb dX8_mixed_3 rfl ?_
  refine lv_lmul hx hb dX8_mixed_4 ?_
  refine lv_topl (fun x_1 ex_1 => ?_)
  refine lv_ldc2 hx hb hown (hts _ tw_1272) dX8_mixed_5 ?_
  refine lv_iload_n hx hb dX8_mixed_8 rfl (lv_at hl 0 rfl) ?_
  refine lv_i2l (v := p0.toInt64) hx hb dX8_mixed_9 rfl ?_
  refine lv_lsub hx hb dX8_mixed_10 ?_
  refine lv_topl (fun x_2 ex_2 => ?_)
  refine lv_iload_n hx hb dX8_mixed_11 rfl (lv_at hl 2 rfl) ?_
  refine lv_i2l (v := p2.toInt64) hx hb dX8_mixed_12 rfl ?_
  refine lv_lmul hx hb dX8_mixed_13 ?_
  refine lv_topl (fun x_3 ex_3 => ?_)
  refine lv_ladd hx hb dX8_mixed_14 ?_
  refine lv_topl (fun x_4 ex_4 => ?_)
  refine lv_ldc2 hx hb hown (hts _ tw_1272) dX8_mixed_15 ?_
  refine lv_ldiv hx hb dX8_mixed_18 (by decide) ?_
  refine lv_topl (fun x_5 ex_5 => ?_)
  refine lv_l2i hx hb dX8_mixed_19 rfl ?_
  refine lv_topi (fun x_6 ex_6 => ?_)
  exact W.iret (v := x_6) hx hb hr (fun t ht hW => ⟨⟨x_6, (), rfl, (by show _ = fM_mixed p0 p1 p2; unfold fM_mixed; first | (rw [ex_6, ex_5, ex_4, ex_3, ex_2, ex_1]; done) | (rw [ex_6, ex_5, ex_4, ex_3, ex_2, ex_1]; rfl) | (simp only [ex_6, ex_5, ex_4, ex_3, ex_2, ex_1]; done)), trivial⟩, hS.F ht⟩) hS.2.2 dX8_mixed_20


def fX_mixed (p0 : Int32) (p1 : Int32) (p2 : Int32) : Int32 := (((((p0.toInt64) * (p1.toInt64)) + (((100 - p0).toInt64) * (p2.toInt64))) / 100).toInt32)
set_option maxHeartbeats 4000000 in
set_option maxRecDepth 100000 in
theorem y_mixed (l : Launch) (D : va_G) (k : Nat → ClassId) (st : Nat → Nat) (lo : Nat) (p0 : Int32) (p1 : Int32) (p2 : Int32)  : CRi l D k st lo yX7_mixed cX7_mixed 3 (some .int) ({ frames := 0, cells := 0, slots := 0, locals := 0 }) [.int p0, .int p1, .int p2] [] (fun r => r = fX_mixed p0 p1 p2) := by
  intro sz
  refine Met.ofW (cc := cX7_mixed) (maxL := 3) (ret := (some .int)) (by decide) rfl ?_
  intro p e s m args below meth c s₁ B hml hv
  obtain ⟨rfl, hsz, hlo, hP, hK, hDL, hZ⟩ := hv
  have hx := B.exec
  have hb := B.bytes
  have hr := B.returns
  have hts := WS_ts B.pre
  have hown : s.vm.findClass RX7 = some m.cls := findClass_of_methodNamed B.named
  have hlocks := B.notSynchronized
  subst hsz
  have hA : ∀ q : Nat, s.heap.size ≤ q → (fun q : Nat => s.heap.size ≤ q) q := fun _ h => h
  have hAlo : ∀ q : Nat, (fun q : Nat => s.heap.size ≤ q) q → lo ≤ q := fun q h => Nat.le_trans hlo h
  have hS : va_S (fun q : Nat => s.heap.size ≤ q) s.heap s.heap [] := va_S.rf
  have hl := lv_entry ([.int p0, .int p1, .int p2]) (n := 3) (Nat.le_of_ble_eq_true rfl)
  rw [lg_entry_eq]
  generalize (lg_sl ([.int p0, .int p1, .int p2]) ++ List.replicate (3 - (lg_sl ([.int p0, .int p1, .int p2])).length) Slot.unset).toArray = ls at hl ⊢
  have hl : lv_has ls 3 [(0, .int p0), (1, .int p1), (2, .int p2)] := hl
  refine lv_iload_n hx hb dX7_mixed_0 rfl (lv_at hl 0 rfl) ?_
  refine lv_i2l (v := p0.toInt64) hx hb dX7_mixed_1 rfl ?_
  refine lv_iload_n hx hb dX7_mixed_2 rfl (lv_at hl 1 rfl) ?_
  refine lv_i2l (v := p1.toInt64) hx hb dX7_mixed_3 rfl ?_
  refine lv_lmul hx hb dX7_mixed_4 ?_
  refine lv_topl (fun x_1 ex_1 => ?_)
  refine lv_bipush (v := 100) hx hb dX7_mixed_5 (by decide) ?_
  refine lv_iload_n hx hb dX7_mixed_7 rfl (lv_at hl 0 rfl) ?_
  refine lv_isub hx hb dX7_mixed_8 ?_
  refine lv_topi (fun x_2 ex_2 => ?_)
  refine lv_i2l (v := x_2.toInt64) hx hb dX7_mixed_9 rfl ?_
  refine lv_iload_n hx hb dX7_mixed_10 rfl (lv_at hl 2 rfl) ?_
  refine lv_i2l (v := p2.toInt64) hx hb dX7_mixed_11 rfl ?_
  refine lv_lmul hx hb dX7_mixed_12 ?_
  refine lv_topl (fun x_3 ex_3 => ?_)
  refine lv_ladd hx hb dX7_mixed_13 ?_
  refine lv_topl (fun x_4 ex_4 => ?_)
  refine lv_ldc2 hx hb hown (hts _ tw_571) dX7_mixed_14 ?_
  refine lv_ldiv hx hb dX7_mixed_17 (by decide) ?_
  refine lv_topl (fun x_5 ex_5 => ?_)
  refine lv_l2i hx hb dX7_mixed_18 rfl ?_
  refine lv_topi (fun x_6 ex_6 => ?_)
  exact W.iret (v := x_6) hx hb hr (fun t ht hW => ⟨⟨x_6, (), rfl, (by show _ = fX_mixed p0 p1 p2; unfold fX_mixed; first | (rw [ex_6, ex_5, ex_4, ex_3, ex_2, ex_1]; done) | (rw [ex_6, ex_5, ex_4, ex_3, ex_2, ex_1]; rfl) | (simp only [ex_6, ex_5, ex_4, ex_3, ex_2, ex_1]; done)), trivial⟩, hS.F ht⟩) hS.2.2 dX7_mixed_19


def fM_chance (ffrees : Nat → Int32) (se : Nat → Nat) (tm : Nat → Nat) (gs : Nat → Int32) (sn : Nat) (i : Nat) (pz : Int32) : Int32 := (if 0 ≤ (if i = 0 then (ffrees (24 * sn + i)) else (if pz = 0 then ((ffrees (24 * sn + i)) - (sg se tm gs (9 * sn + 0))) else ((ffrees (24 * sn + i)) + (sg se tm gs (9 * sn + 0))))) then (if (if i = 0 then (ffrees (24 * sn + i)) else (if pz = 0 then ((ffrees (24 * sn + i)) - (sg se tm gs (9 * sn + 0))) else ((ffrees (24 * sn + i)) + (sg se tm gs (9 * sn + 0))))) ≤ 100 then (if i = 0 then (ffrees (24 * sn + i)) else (if pz = 0 then ((ffrees (24 * sn + i)) - (sg se tm gs (9 * sn + 0))) else ((ffrees (24 * sn + i)) + (sg se tm gs (9 * sn + 0))))) else 100) else 0)
set_option maxHeartbeats 4000000 in
set_option maxRecDepth 100000 in
theorem n_chanceOf (l : Launch) (D : va_G) (k : Nat → ClassId) (st : Nat → Nat) (lo : Nat) (a : Nat → Nat) (tx : Nat) (t0 : Nat) (we : Nat) (rd : Nat) (ru : Nat) (rw : Nat) (ca : Nat) (fp : Int32) (wd : Int64) (nu : Int32) (na : Int32) (ts : Int32) (df : Int32) (db : Int32) (sd : Int32) (ffrees : Nat → Int32) (se : Nat → Nat) (tm : Nat → Nat) (gs : Nat → Int32) (sn : Nat) (i : Nat) (pz : Int32)  (hs : sn < 3) (hi : i < 24) : CRi l D k st lo yX8_chanceOf cX8_chanceOf 6 (some .int) ({ frames := 1, cells := 0, slots := 0, locals := 22 }) [.ref (a 0), .int (nI sn), .int (nI i), .int pz] [((a 0), .inr (8, (fX8 a (nI tx) fp (nI t0) wd (nI we) nu na (nI rd) ts (nI ru) (nI rw) (nI ca) df db sd))), (aI k (a 2) 72 ffrees), (aI k (a 4) 27 (sg se tm gs))] (fun r => r = fM_chance ffrees se tm gs sn i pz) := by
  intro sz
  refine Met.ofW (cc := cX8_chanceOf) (maxL := 6) (ret := (some .int)) (by decide) rfl ?_
  intro p e s m args below meth c s₁ B hml hv
  obtain ⟨rfl, hsz, hlo, hP, hK, hDL, hZ⟩ := hv
  have hx := B.exec
  have hb := B.bytes
  have hr := B.returns
  have hts := WS_ts B.pre
  have hown : s.vm.findClass RX8 = some m.cls := findClass_of_methodNamed B.named
  have hlocks := B.notSynchronized
  subst hsz
  have hA : ∀ q : Nat, s.heap.size ≤ q → (fun q : Nat => s.heap.size ≤ q) q := fun _ h => h
  have hAlo : ∀ q : Nat, (fun q : Nat => s.heap.size ≤ q) q → lo ≤ q := fun q h => Nat.le_trans hlo h
  have hS : va_S (fun q : Nat => s.heap.size ≤ q) s.heap s.heap [] := va_S.rf
  have hl := lv_entry ([.ref (a 0), .int (nI sn), .int (nI i), .int pz]) (n := 6) (Nat.le_of_ble_eq_true rfl)
  rw [lg_entry_eq]
  generalize (lg_sl ([.ref (a 0), .int (nI sn), .int (nI i), .int pz]) ++ List.replicate (6 - (lg_sl ([.ref (a 0), .int (nI sn), .int (nI i), .int pz])).length) Slot.unset).toArray = ls at hl ⊢
  have hl : lv_has ls 6 [(0, .ref (a 0)), (1, .int (nI sn)), (2, .int (nI i)), (3, .int pz)] := hl
  refine lv_aload_n hx hb dX8_chanceOf_0 rfl (lv_at hl 0 rfl) ?_
  refine va_get (D := D) (ci := 8) (v := .ref (a 2)) (C := RX8) (T := TX8) (N := 44) hx hb hts inX8 hown hK hP 0 rfl rfl 1 (by decide) (hts _ tw_974) (fun _ h9 => h9) rfl dX8_chanceOf_1 ?_
  refine lv_bipush (v := 24) hx hb dX8_chanceOf_4 (by decide) ?_
  refine lv_iload_n hx hb dX8_chanceOf_6 rfl (lv_at hl 1 rfl) ?_
  refine lv_imul hx hb dX8_chanceOf_7 ?_
  refine lv_ti (y := (nI (24 * sn))) (pk_mul 24 sn) ?_
  refine lv_iload_n hx hb dX8_chanceOf_8 rfl (lv_at hl 2 rfl) ?_
  refine lv_iadd hx hb dX8_chanceOf_9 ?_
  refine lv_ti (y := (nI (24 * sn + i))) (nI_add (24 * sn) i) ?_
  refine va_iald hx hb hK hP 1 1 rfl rfl (vp_in_nI (by omega) (by decide)) dX8_chanceOf_10 ?_
  refine lv_ti (y := (ffrees (24 * sn + i))) (by rw [nI_clamp (by omega)]) ?_
  refine lv_istore (lv' := [(4, .int (ffrees (24 * sn + i))), (0, .ref (a 0)), (1, .int (nI sn)), (2, .int (nI i)), (3, .int pz)]) hx hb dX8_chanceOf_11 hl (by decide) rfl (fun ls hl => ?_)
  refine lv_iload_n hx hb dX8_chanceOf_13 rfl (lv_at hl 3 rfl) ?_
  refine W_join (fun (x_7 : Int32) (H : Heap) (locs : List Loc) (ls : Array Slot) => x_7 = (if i = 0 then (ffrees (24 * sn + i)) else (if pz = 0 then ((ffrees (24 * sn + i)) - (sg se tm gs (9 * sn + 0))) else ((ffrees (24 * sn + i)) + (sg se tm gs (9 * sn + 0))))) ∧ va_P D classes [((a 0), .inr (8, (fX8 a (nI tx) fp (nI t0) wd (nI we) nu na (nI rd) ts (nI ru) (nI rw) (nI ca) df db sd))), (aI k (a 2) 72 ffrees), (aI k (a 4) 27 (sg se tm gs))] H ∧ va_S (fun q : Nat => s.heap.size ≤ q) s.heap H locs ∧ lv_has ls 6 [(4, .int (ffrees (24 * sn + i))), (3, .int pz), (2, .int (nI i)), (1, .int (nI sn)), (0, .ref (a 0))]) (fun (x_7 : Int32) => [.int x_7]) 47 (fun x_7 H locs ls hJ => ?_) (fun J_7 => ?_)
  · obtain ⟨hj_7, hP, hS, hl⟩ := hJ
    show W p l e _ s m _ below meth c H locs _ _ _ (F0 m 47 ls [.int x_7])
    refine lv_istore (lv' := [(5, .int x_7), (4, .int (ffrees (24 * sn + i))), (3, .int pz), (2, .int (nI i)), (1, .int (nI sn)), (0, .ref (a 0))]) hx hb dX8_chanceOf_47 hl (by decide) rfl (fun ls hl => ?_)
    refine lv_iload hx hb dX8_chanceOf_49 (lv_at hl 0 rfl) ?_
    refine W_join (fun (x_10 : Int32) (H : Heap) (locs : List Loc) (ls : Array Slot) => x_10 = (if 0 ≤ x_7 then (if x_7 ≤ 100 then x_7 else 100) else 0) ∧ va_P D classes [((a 0), .inr (8, (fX8 a (nI tx) fp (nI t0) wd (nI we) nu na (nI rd) ts (nI ru) (nI rw) (nI ca) df db sd))), (aI k (a 2) 72 ffrees), (aI k (a 4) 27 (sg se tm gs))] H ∧ va_S (fun q : Nat => s.heap.size ≤ q) s.heap H locs ∧ lv_has ls 6 [(5, .int x_7), (4, .int (ffrees (24 * sn + i))), (3, .int pz), (2, .int (nI i)), (1, .int (nI sn)), (0, .ref (a 0))]) (fun (x_10 : Int32) => [.int x_10]) 72 (fun x_10 H locs ls hJ => ?_) (fun J_10 => ?_)
    · obtain ⟨hj_10, hP, hS, hl⟩ := hJ
      show W p l e _ s m _ below meth c H locs _ _ _ (F0 m 72 ls [.int x_10])
      exact W.iret (v := x_10) hx hb hr (fun t ht hW => ⟨⟨x_10, (), rfl, (by show _ = fM_chance ffrees se tm gs sn i pz; unfold fM_chance; first | (rw [hj_10, hj_7]; done) | (rw [hj_10, hj_7]; rfl) | (simp only [hj_10, hj_7]; done)), trivial⟩, hS.F ht⟩) hS.2.2 dX8_chanceOf_72
    · refine lv_if_ge (tgt := 58) hx hb dX8_chanceOf_51 (by decide) (fun c_11 => ?_) (fun c_11 => ?_)
      · refine lv_iload hx hb dX8_chanceOf_58 (lv_at hl 0 rfl) ?_
        refine lv_bipush (v := 100) hx hb dX8_chanceOf_60 (by decide) ?_
        refine lv_icmp_le (tgt := 70) hx hb dX8_chanceOf_62 (by decide) (fun c_12 => ?_) (fun c_12 => ?_)
        · refine lv_iload hx hb dX8_chanceOf_70 (lv_at hl 0 rfl) ?_
          exact J_10 x_7 _ _ _ ⟨(by first | (rw [if_pos c_11, if_pos c_12]; done) | (rw [if_pos c_11, if_pos c_12]; rfl) | (simp only [if_pos c_11, if_pos c_12]; done)), hP, hS, lv_sub hl [0, 1, 2, 3, 4, 5] rfl⟩
        · refine lv_bipush (v := 100) hx hb dX8_chanceOf_65 (by decide) ?_
          refine lv_goto (tgt := 72) hx hb dX8_chanceOf_67 (by decide) ?_
          exact J_10 100 _ _ _ ⟨(by first | (rw [if_pos c_11, if_neg c_12]; done) | (rw [if_pos c_11, if_neg c_12]; rfl) | (simp only [if_pos c_11, if_neg c_12]; done)), hP, hS, lv_sub hl [0, 1, 2, 3, 4, 5] rfl⟩
      · refine lv_iconst (v := 0) hx hb dX8_chanceOf_54 (by decide) ?_
        refine lv_goto (tgt := 72) hx hb dX8_chanceOf_55 (by decide) ?_
        exact J_10 0 _ _ _ ⟨(by first | (rw [if_neg c_11]; done) | (rw [if_neg c_11]; rfl) | (simp only [if_neg c_11]; done)), hP, hS, lv_sub hl [0, 1, 2, 3, 4, 5] rfl⟩
  · refine lv_if_ne (tgt := 22) hx hb dX8_chanceOf_14 (by decide) (fun c_13 => ?_) (fun c_13 => ?_)
    · have c_13 : ¬ (i = 0) := fun h => c_13 ((nI_eq (a := i) (b := 0) (by omega) (by omega)).mpr h)
      refine lv_iload_n hx hb dX8_chanceOf_22 rfl (lv_at hl 4 rfl) ?_
      refine lv_if_eq (tgt := 38) hx hb dX8_chanceOf_23 (by decide) (fun c_14 => ?_) (fun c_14 => ?_)
      · refine lv_iload hx hb dX8_chanceOf_38 (lv_at hl 0 rfl) ?_
        refine lv_aload_n hx hb dX8_chanceOf_40 rfl (lv_at hl 1 rfl) ?_
        refine lv_iload_n hx hb dX8_chanceOf_41 rfl (lv_at hl 2 rfl) ?_
        refine lv_iconst (v := 0) hx hb dX8_chanceOf_42 (by decide) ?_
        refine ro_i (D := D) (va_runV (As := [.int (nI sn), .int 0]) (rest := [.int (ffrees (24 * sn + i))]) ⟨hx, hb, hml, hown, hts⟩ ((m_of l D k st lo a tx t0 we rd ru rw ca fp wd nu na ts df db sd se tm gs sn 0 (by first | assumption | omega) (by first | assumption | omega)) s.heap.size) (cwV 2 hts (gV tw_1194 tw_1196 tw_39 tw_87 tw_1197) rfl rfl rfl (by decide +kernel) ⟨Nat.le_of_ble_eq_true rfl, Nat.le_of_ble_eq_true rfl⟩) (pV hS hAlo hlo hP hK hDL hZ [0, 2] (by decide) rfl (ci := 8) (q := (RX8, TX8, 44)) (q0 := 0) rfl rfl) rfl rfl hl.1 rfl (lv_room (Nat.le_of_ble_eq_true rfl)) dX8_chanceOf_43 ⟨Nat.le_of_ble_eq_true rfl, Nat.le_of_ble_eq_true rfl⟩) hS hA hP (fun r_15 H locs hw_15 hP hS => ?_)
        try dsimp only at hw_15
        refine lv_isub hx hb dX8_chanceOf_46 ?_
        refine lv_topi (fun x_16 ex_16 => ?_)
        exact J_7 x_16 _ _ _ ⟨(by first | (rw [if_neg c_13, if_pos c_14, ex_16, hw_15]; done) | (rw [if_neg c_13, if_pos c_14, ex_16, hw_15]; rfl) | (simp only [if_neg c_13, if_pos c_14, ex_16, hw_15]; done)), hP, hS, lv_sub hl [0, 4, 3, 2, 1] rfl⟩
      · refine lv_iload hx hb dX8_chanceOf_26 (lv_at hl 0 rfl) ?_
        refine lv_aload_n hx hb dX8_chanceOf_28 rfl (lv_at hl 1 rfl) ?_
        refine lv_iload_n hx hb dX8_chanceOf_29 rfl (lv_at hl 2 rfl) ?_
        refine lv_iconst (v := 0) hx hb dX8_chanceOf_30 (by decide) ?_
        refine ro_i (D := D) (va_runV (As := [.int (nI sn), .int 0]) (rest := [.int (ffrees (24 * sn + i))]) ⟨hx, hb, hml, hown, hts⟩ ((m_of l D k st lo a tx t0 we rd ru rw ca fp wd nu na ts df db sd se tm gs sn 0 (by first | assumption | omega) (by first | assumption | omega)) s.heap.size) (cwV 2 hts (gV tw_1194 tw_1196 tw_39 tw_87 tw_1197) rfl rfl rfl (by decide +kernel) ⟨Nat.le_of_ble_eq_true rfl, Nat.le_of_ble_eq_true rfl⟩) (pV hS hAlo hlo hP hK hDL hZ [0, 2] (by decide) rfl (ci := 8) (q := (RX8, TX8, 44)) (q0 := 0) rfl rfl) rfl rfl hl.1 rfl (lv_room (Nat.le_of_ble_eq_true rfl)) dX8_chanceOf_31 ⟨Nat.le_of_ble_eq_true rfl, Nat.le_of_ble_eq_true rfl⟩) hS hA hP (fun r_17 H locs hw_17 hP hS => ?_)
        try dsimp only at hw_17
        refine lv_iadd hx hb dX8_chanceOf_34 ?_
        refine lv_topi (fun x_18 ex_18 => ?_)
        refine lv_goto (tgt := 47) hx hb dX8_chanceOf_35 (by decide) ?_
        exact J_7 x_18 _ _ _ ⟨(by first | (rw [if_neg c_13, if_neg c_14, ex_18, hw_17]; done) | (rw [if_neg c_13, if_neg c_14, ex_18, hw_17]; rfl) | (simp only [if_neg c_13, if_neg c_14, ex_18, hw_17]; done)), hP, hS, lv_sub hl [0, 4, 3, 2, 1] rfl⟩
    · have c_13 := (nI_eq (a := i) (b := 0) (by omega) (by omega)).mp c_13
      refine lv_iload hx hb dX8_chanceOf_17 (lv_at hl 0 rfl) ?_
      refine lv_goto (tgt := 47) hx hb dX8_chanceOf_19 (by decide) ?_
      exact J_7 (ffrees (24 * sn + i)) _ _ _ ⟨(by first | (rw [if_pos c_13]; done) | (rw [if_pos c_13]; rfl) | (simp only [if_pos c_13]; done)), hP, hS, lv_sub hl [0, 4, 3, 2, 1] rfl⟩


def fM_tick (dn : Nat → Nat) (se : Nat → Nat) (tm : Nat → Nat) (gs : Nat → Int32) (sn : Nat) (p0 : Int32) (p1 : Int32) : Int32 := ((p0 * ((nI (dn sn)) + (sg se tm gs (9 * sn + 6)))) + p1)
set_option maxHeartbeats 4000000 in
set_option maxRecDepth 100000 in
theorem n_tick (l : Launch) (D : va_G) (k : Nat → ClassId) (st : Nat → Nat) (lo : Nat) (a : Nat → Nat) (tx : Nat) (t0 : Nat) (we : Nat) (rd : Nat) (ru : Nat) (rw : Nat) (ca : Nat) (fp : Int32) (wd : Int64) (nu : Int32) (na : Int32) (ts : Int32) (df : Int32) (db : Int32) (sd : Int32) (dn : Nat → Nat) (se : Nat → Nat) (tm : Nat → Nat) (gs : Nat → Int32) (sn : Nat) (p0 : Int32) (p1 : Int32)  (hs : sn < 3) : CRi l D k st lo yX8_tick cX8_tick 4 (some .int) ({ frames := 1, cells := 0, slots := 0, locals := 22 }) [.ref (a 0), .int (nI sn), .int p0, .int p1] [((a 0), .inr (8, (fX8 a (nI tx) fp (nI t0) wd (nI we) nu na (nI rd) ts (nI ru) (nI rw) (nI ca) df db sd))), (aI k (a 1) 3 (nF dn)), (aI k (a 4) 27 (sg se tm gs))] (fun r => r = fM_tick dn se tm gs sn p0 p1) := by
  intro sz
  refine Met.ofW (cc := cX8_tick) (maxL := 4) (ret := (some .int)) (by decide) rfl ?_
  intro p e s m args below meth c s₁ B hml hv
  obtain ⟨rfl, hsz, hlo, hP, hK, hDL, hZ⟩ := hv
  have hx := B.exec
  have hb := B.bytes
  have hr := B.returns
  have hts := WS_ts B.pre
  have hown : s.vm.findClass RX8 = some m.cls := findClass_of_methodNamed B.named
  have hlocks := B.notSynchronized
  subst hsz
  have hA : ∀ q : Nat, s.heap.size ≤ q → (fun q : Nat => s.heap.size ≤ q) q := fun _ h => h
  have hAlo : ∀ q : Nat, (fun q : Nat => s.heap.size ≤ q) q → lo ≤ q := fun q h => Nat.le_trans hlo h
  have hS : va_S (fun q : Nat => s.heap.size ≤ q) s.heap s.heap [] := va_S.rf
  have hl := lv_entry ([.ref (a 0), .int (nI sn), .int p0, .int p1]) (n := 4) (Nat.le_of_ble_eq_true rfl)
  rw [lg_entry_eq]
  generalize (lg_sl ([.ref (a 0), .int (nI sn), .int p0, .int p1]) ++ List.replicate (4 - (lg_sl ([.ref (a 0), .int (nI sn), .int p0, .int p1])).length) Slot.unset).toArray = ls at hl ⊢
  have hl : lv_has ls 4 [(0, .ref (a 0)), (1, .int (nI sn)), (2, .int p0), (3, .int p1)] := hl
  refine lv_iload_n hx hb dX8_tick_0 rfl (lv_at hl 2 rfl) ?_
  refine lv_aload_n hx hb dX8_tick_1 rfl (lv_at hl 0 rfl) ?_
  refine va_get (D := D) (ci := 8) (v := .ref (a 1)) (C := RX8) (T := TX8) (N := 44) hx hb hts inX8 hown hK hP 0 rfl rfl 0 (by decide) (hts _ tw_973) (fun _ h9 => h9) rfl dX8_tick_2 ?_
  refine lv_iload_n hx hb dX8_tick_5 rfl (lv_at hl 1 rfl) ?_
  refine va_iald hx hb hK hP 1 1 rfl rfl (vp_in_nI (by omega) (by decide)) dX8_tick_6 ?_
  refine lv_ti (y := (nI (dn sn))) (by rw [nI_clamp (by omega)]; rfl) ?_
  refine lv_aload_n hx hb dX8_tick_7 rfl (lv_at hl 0 rfl) ?_
  refine lv_iload_n hx hb dX8_tick_8 rfl (lv_at hl 1 rfl) ?_
  refine lv_bipush (v := 6) hx hb dX8_tick_9 (by decide) ?_
  refine ro_i (D := D) (va_runV (As := [.int (nI sn), .int 6]) (rest := [.int (nI (dn sn)), .int p0]) ⟨hx, hb, hml, hown, hts⟩ ((m_of l D k st lo a tx t0 we rd ru rw ca fp wd nu na ts df db sd se tm gs sn 6 (by first | assumption | omega) (by first | assumption | omega)) s.heap.size) (cwV 2 hts (gV tw_1194 tw_1196 tw_39 tw_87 tw_1197) rfl rfl rfl (by decide +kernel) ⟨Nat.le_of_ble_eq_true rfl, Nat.le_of_ble_eq_true rfl⟩) (pV hS hAlo hlo hP hK hDL hZ [0, 2] (by decide) rfl (ci := 8) (q := (RX8, TX8, 44)) (q0 := 0) rfl rfl) rfl rfl hl.1 rfl (lv_room (Nat.le_of_ble_eq_true rfl)) dX8_tick_11 ⟨Nat.le_of_ble_eq_true rfl, Nat.le_of_ble_eq_true rfl⟩) hS hA hP (fun r_1 H locs hw_1 hP hS => ?_)
  try dsimp only at hw_1
  refine lv_iadd hx hb dX8_tick_14 ?_
  refine lv_topi (fun x_2 ex_2 => ?_)
  refine lv_imul hx hb dX8_tick_15 ?_
  refine lv_topi (fun x_3 ex_3 => ?_)
  refine lv_iload_n hx hb dX8_tick_16 rfl (lv_at hl 3 rfl) ?_
  refine lv_iadd hx hb dX8_tick_17 ?_
  refine lv_topi (fun x_4 ex_4 => ?_)
  exact W.iret (v := x_4) hx hb hr (fun t ht hW => ⟨⟨x_4, (), rfl, (by show _ = fM_tick dn se tm gs sn p0 p1; unfold fM_tick; first | (rw [ex_4, ex_3, ex_2, hw_1]; done) | (rw [ex_4, ex_3, ex_2, hw_1]; rfl) | (simp only [ex_4, ex_3, ex_2, hw_1]; done)), trivial⟩, hS.F ht⟩) hS.2.2 dX8_tick_18


def fM_late (se : Nat → Nat) (tm : Nat → Nat) (gs : Nat → Int32) (sn : Nat) (p0 : Int32) : Int32 := (if 0 ≤ (p0 - (sg se tm gs (9 * sn + 4))) then (p0 - (sg se tm gs (9 * sn + 4))) else 0)
set_option maxHeartbeats 4000000 in
set_option maxRecDepth 100000 in
theorem n_lateAt (l : Launch) (D : va_G) (k : Nat → ClassId) (st : Nat → Nat) (lo : Nat) (a : Nat → Nat) (tx : Nat) (t0 : Nat) (we : Nat) (rd : Nat) (ru : Nat) (rw : Nat) (ca : Nat) (fp : Int32) (wd : Int64) (nu : Int32) (na : Int32) (ts : Int32) (df : Int32) (db : Int32) (sd : Int32) (se : Nat → Nat) (tm : Nat → Nat) (gs : Nat → Int32) (sn : Nat) (p0 : Int32)  (hs : sn < 3) : CRi l D k st lo yX8_lateAt cX8_lateAt 4 (some .int) ({ frames := 1, cells := 0, slots := 0, locals := 22 }) [.ref (a 0), .int (nI sn), .int p0] [((a 0), .inr (8, (fX8 a (nI tx) fp (nI t0) wd (nI we) nu na (nI rd) ts (nI ru) (nI rw) (nI ca) df db sd))), (aI k (a 4) 27 (sg se tm gs))] (fun r => r = fM_late se tm gs sn p0) := by
  intro sz
  refine Met.ofW (cc := cX8_lateAt) (maxL := 4) (ret := (some .int)) (by decide) rfl ?_
  intro p e s m args below meth c s₁ B hml hv
  obtain ⟨rfl, hsz, hlo, hP, hK, hDL, hZ⟩ := hv
  have hx := B.exec
  have hb := B.bytes
  have hr := B.returns
  have hts := WS_ts B.pre
  have hown : s.vm.findClass RX8 = some m.cls := findClass_of_methodNamed B.named
  have hlocks := B.notSynchronized
  subst hsz
  have hA : ∀ q : Nat, s.heap.size ≤ q → (fun q : Nat => s.heap.size ≤ q) q := fun _ h => h
  have hAlo : ∀ q : Nat, (fun q : Nat => s.heap.size ≤ q) q → lo ≤ q := fun q h => Nat.le_trans hlo h
  have hS : va_S (fun q : Nat => s.heap.size ≤ q) s.heap s.heap [] := va_S.rf
  have hl := lv_entry ([.ref (a 0), .int (nI sn), .int p0]) (n := 4) (Nat.le_of_ble_eq_true rfl)
  rw [lg_entry_eq]
  generalize (lg_sl ([.ref (a 0), .int (nI sn), .int p0]) ++ List.replicate (4 - (lg_sl ([.ref (a 0), .int (nI sn), .int p0])).length) Slot.unset).toArray = ls at hl ⊢
  have hl : lv_has ls 4 [(0, .ref (a 0)), (1, .int (nI sn)), (2, .int p0)] := hl
  refine lv_iload_n hx hb dX8_lateAt_0 rfl (lv_at hl 2 rfl) ?_
  refine lv_aload_n hx hb dX8_lateAt_1 rfl (lv_at hl 0 rfl) ?_
  refine lv_iload_n hx hb dX8_lateAt_2 rfl (lv_at hl 1 rfl) ?_
  refine lv_iconst (v := 4) hx hb dX8_lateAt_3 (by decide) ?_
  refine ro_i (D := D) (va_runV (As := [.int (nI sn), .int 4]) (rest := [.int p0]) ⟨hx, hb, hml, hown, hts⟩ ((m_of l D k st lo a tx t0 we rd ru rw ca fp wd nu na ts df db sd se tm gs sn 4 (by first | assumption | omega) (by first | assumption | omega)) s.heap.size) (cwV 2 hts (gV tw_1194 tw_1196 tw_39 tw_87 tw_1197) rfl rfl rfl (by decide +kernel) ⟨Nat.le_of_ble_eq_true rfl, Nat.le_of_ble_eq_true rfl⟩) (pV hS hAlo hlo hP hK hDL hZ [0, 1] (by decide) rfl (ci := 8) (q := (RX8, TX8, 44)) (q0 := 0) rfl rfl) rfl rfl hl.1 rfl (lv_room (Nat.le_of_ble_eq_true rfl)) dX8_lateAt_4 ⟨Nat.le_of_ble_eq_true rfl, Nat.le_of_ble_eq_true rfl⟩) hS hA hP (fun r_1 H locs hw_1 hP hS => ?_)
  try dsimp only at hw_1
  refine lv_isub hx hb dX8_lateAt_7 ?_
  refine lv_topi (fun x_2 ex_2 => ?_)
  refine lv_istore_n (lv' := [(3, .int x_2), (0, .ref (a 0)), (1, .int (nI sn)), (2, .int p0)]) hx hb dX8_lateAt_8 rfl hl (by decide) rfl (fun ls hl => ?_)
  refine lv_iload_n hx hb dX8_lateAt_9 rfl (lv_at hl 0 rfl) ?_
  refine W_join (fun (x_4 : Int32) (H : Heap) (locs : List Loc) (ls : Array Slot) => x_4 = (if 0 ≤ x_2 then x_2 else 0) ∧ va_P D classes [((a 0), .inr (8, (fX8 a (nI tx) fp (nI t0) wd (nI we) nu na (nI rd) ts (nI ru) (nI rw) (nI ca) df db sd))), (aI k (a 4) 27 (sg se tm gs))] H ∧ va_S (fun q : Nat => s.heap.size ≤ q) s.heap H locs ∧ lv_has ls 4 [(3, .int x_2), (2, .int p0), (1, .int (nI sn)), (0, .ref (a 0))]) (fun (x_4 : Int32) => [.int x_4]) 18 (fun x_4 H locs ls hJ => ?_) (fun J_4 => ?_)
  · obtain ⟨hj_4, hP, hS, hl⟩ := hJ
    show W p l e _ s m _ below meth c H locs _ _ _ (F0 m 18 ls [.int x_4])
    exact W.iret (v := x_4) hx hb hr (fun t ht hW => ⟨⟨x_4, (), rfl, (by show _ = fM_late se tm gs sn p0; unfold fM_late; first | (rw [hj_4, ex_2, hw_1]; done) | (rw [hj_4, ex_2, hw_1]; rfl) | (simp only [hj_4, ex_2, hw_1]; done)), trivial⟩, hS.F ht⟩) hS.2.2 dX8_lateAt_18
  · refine lv_if_ge (tgt := 17) hx hb dX8_lateAt_10 (by decide) (fun c_5 => ?_) (fun c_5 => ?_)
    · refine lv_iload_n hx hb dX8_lateAt_17 rfl (lv_at hl 0 rfl) ?_
      exact J_4 x_2 _ _ _ ⟨(by first | (rw [if_pos c_5]; done) | (rw [if_pos c_5]; rfl) | (simp only [if_pos c_5]; done)), hP, hS, lv_sub hl [0, 3, 2, 1] rfl⟩
    · refine lv_iconst (v := 0) hx hb dX8_lateAt_13 (by decide) ?_
      refine lv_goto (tgt := 18) hx hb dX8_lateAt_14 (by decide) ?_
      exact J_4 0 _ _ _ ⟨(by first | (rw [if_neg c_5]; done) | (rw [if_neg c_5]; rfl) | (simp only [if_neg c_5]; done)), hP, hS, lv_sub hl [0, 3, 2, 1] rfl⟩


def fM_takingBy (dn : Nat → Nat) (se : Nat → Nat) (tm : Nat → Nat) (gs : Nat → Int32) (fprices : Nat → Int32) (sn : Nat) (i : Nat) (p0 : Int32) (p2 : Int32) : Int32 := ((((fprices (24 * sn + i)) + (p2 * ((nI (dn sn)) - (nI i)))) + ((sg se tm gs (9 * sn + 3)) * (fM_late se tm gs sn (((fM_tick dn se tm gs sn p0 (nI i)) + (nI (dn sn))) - (nI i))))) * 1000)
set_option maxHeartbeats 4000000 in
set_option maxRecDepth 100000 in
theorem n_takingBy (l : Launch) (D : va_G) (k : Nat → ClassId) (st : Nat → Nat) (lo : Nat) (a : Nat → Nat) (tx : Nat) (t0 : Nat) (we : Nat) (rd : Nat) (ru : Nat) (rw : Nat) (ca : Nat) (fp : Int32) (wd : Int64) (nu : Int32) (na : Int32) (ts : Int32) (df : Int32) (db : Int32) (sd : Int32) (dn : Nat → Nat) (se : Nat → Nat) (tm : Nat → Nat) (gs : Nat → Int32) (fprices : Nat → Int32) (sn : Nat) (i : Nat) (p0 : Int32) (p2 : Int32)  (hs : sn < 3) (hi : i < 24) : CRi l D k st lo yX8_takingBy cX8_takingBy 6 (some .int) ({ frames := 2, cells := 0, slots := 0, locals := 45 }) [.ref (a 0), .int (nI sn), .int p0, .int (nI i), .int p2] [((a 0), .inr (8, (fX8 a (nI tx) fp (nI t0) wd (nI we) nu na (nI rd) ts (nI ru) (nI rw) (nI ca) df db sd))), (aI k (a 1) 3 (nF dn)), (aI k (a 4) 27 (sg se tm gs)), (aI k (a 3) 72 fprices)] (fun r => r = fM_takingBy dn se tm gs fprices sn i p0 p2) := by
  intro sz
  refine Met.ofW (cc := cX8_takingBy) (maxL := 6) (ret := (some .int)) (by decide) rfl ?_
  intro p e s m args below meth c s₁ B hml hv
  obtain ⟨rfl, hsz, hlo, hP, hK, hDL, hZ⟩ := hv
  have hx := B.exec
  have hb := B.bytes
  have hr := B.returns
  have hts := WS_ts B.pre
  have hown : s.vm.findClass RX8 = some m.cls := findClass_of_methodNamed B.named
  have hlocks := B.notSynchronized
  subst hsz
  have hA : ∀ q : Nat, s.heap.size ≤ q → (fun q : Nat => s.heap.size ≤ q) q := fun _ h => h
  have hAlo : ∀ q : Nat, (fun q : Nat => s.heap.size ≤ q) q → lo ≤ q := fun q h => Nat.le_trans hlo h
  have hS : va_S (fun q : Nat => s.heap.size ≤ q) s.heap s.heap [] := va_S.rf
  have hl := lv_entry ([.ref (a 0), .int (nI sn), .int p0, .int (nI i), .int p2]) (n := 6) (Nat.le_of_ble_eq_true rfl)
  rw [lg_entry_eq]
  generalize (lg_sl ([.ref (a 0), .int (nI sn), .int p0, .int (nI i), .int p2]) ++ List.replicate (6 - (lg_sl ([.ref (a 0), .int (nI sn), .int p0, .int (nI i), .int p2])).length) Slot.unset).toArray = ls at hl ⊢
  have hl : lv_has ls 6 [(0, .ref (a 0)), (1, .int (nI sn)), (2, .int p0), (3, .int (nI i)), (4, .int p2)] := hl
  refine lv_aload_n hx hb dX8_takingBy_0 rfl (lv_at hl 0 rfl) ?_
  refine va_get (D := D) (ci := 8) (v := .ref (a 1)) (C := RX8) (T := TX8) (N := 44) hx hb hts inX8 hown hK hP 0 rfl rfl 0 (by decide) (hts _ tw_973) (fun _ h9 => h9) rfl dX8_takingBy_1 ?_
  refine lv_iload_n hx hb dX8_takingBy_4 rfl (lv_at hl 1 rfl) ?_
  refine va_iald hx hb hK hP 1 1 rfl rfl (vp_in_nI (by omega) (by decide)) dX8_takingBy_5 ?_
  refine lv_ti (y := (nI (dn sn))) (by rw [nI_clamp (by omega)]; rfl) ?_
  refine lv_istore (lv' := [(5, .int (nI (dn sn))), (0, .ref (a 0)), (1, .int (nI sn)), (2, .int p0), (3, .int (nI i)), (4, .int p2)]) hx hb dX8_takingBy_6 hl (by decide) rfl (fun ls hl => ?_)
  refine lv_aload_n hx hb dX8_takingBy_8 rfl (lv_at hl 1 rfl) ?_
  refine va_get (D := D) (ci := 8) (v := .ref (a 3)) (C := RX8) (T := TX8) (N := 44) hx hb hts inX8 hown hK hP 0 rfl rfl 2 (by decide) (hts _ tw_975) (fun _ h9 => h9) rfl dX8_takingBy_9 ?_
  refine lv_bipush (v := 24) hx hb dX8_takingBy_12 (by decide) ?_
  refine lv_iload_n hx hb dX8_takingBy_14 rfl (lv_at hl 2 rfl) ?_
  refine lv_imul hx hb dX8_takingBy_15 ?_
  refine lv_ti (y := (nI (24 * sn))) (pk_mul 24 sn) ?_
  refine lv_iload_n hx hb dX8_takingBy_16 rfl (lv_at hl 4 rfl) ?_
  refine lv_iadd hx hb dX8_takingBy_17 ?_
  refine lv_ti (y := (nI (24 * sn + i))) (nI_add (24 * sn) i) ?_
  refine va_iald hx hb hK hP 3 1 rfl rfl (vp_in_nI (by omega) (by decide)) dX8_takingBy_18 ?_
  refine lv_ti (y := (fprices (24 * sn + i))) (by rw [nI_clamp (by omega)]) ?_
  refine lv_iload hx hb dX8_takingBy_19 (lv_at hl 5 rfl) ?_
  refine lv_iload hx hb dX8_takingBy_21 (lv_at hl 0 rfl) ?_
  refine lv_iload_n hx hb dX8_takingBy_23 rfl (lv_at hl 4 rfl) ?_
  refine lv_isub hx hb dX8_takingBy_24 ?_
  refine lv_topi (fun x_1 ex_1 => ?_)
  refine lv_imul hx hb dX8_takingBy_25 ?_
  refine lv_topi (fun x_2 ex_2 => ?_)
  refine lv_iadd hx hb dX8_takingBy_26 ?_
  refine lv_topi (fun x_3 ex_3 => ?_)
  refine lv_aload_n hx hb dX8_takingBy_27 rfl (lv_at hl 1 rfl) ?_
  refine lv_iload_n hx hb dX8_takingBy_28 rfl (lv_at hl 2 rfl) ?_
  refine lv_iconst (v := 3) hx hb dX8_takingBy_29 (by decide) ?_
  refine ro_i (D := D) (va_runV (As := [.int (nI sn), .int 3]) (rest := [.int x_3]) ⟨hx, hb, hml, hown, hts⟩ ((m_of l D k st lo a tx t0 we rd ru rw ca fp wd nu na ts df db sd se tm gs sn 3 (by first | assumption | omega) (by first | assumption | omega)) s.heap.size) (cwV 2 hts (gV tw_1194 tw_1196 tw_39 tw_87 tw_1197) rfl rfl rfl (by decide +kernel) ⟨Nat.le_of_ble_eq_true rfl, Nat.le_of_ble_eq_true rfl⟩) (pV hS hAlo hlo hP hK hDL hZ [0, 2] (by decide) rfl (ci := 8) (q := (RX8, TX8, 44)) (q0 := 0) rfl rfl) rfl rfl hl.1 rfl (lv_room (Nat.le_of_ble_eq_true rfl)) dX8_takingBy_30 ⟨Nat.le_of_ble_eq_true rfl, Nat.le_of_ble_eq_true rfl⟩) hS hA hP (fun r_4 H locs hw_4 hP hS => ?_)
  try dsimp only at hw_4
  refine lv_aload_n hx hb dX8_takingBy_33 rfl (lv_at hl 1 rfl) ?_
  refine lv_iload_n hx hb dX8_takingBy_34 rfl (lv_at hl 2 rfl) ?_
  refine lv_aload_n hx hb dX8_takingBy_35 rfl (lv_at hl 1 rfl) ?_
  refine lv_iload_n hx hb dX8_takingBy_36 rfl (lv_at hl 2 rfl) ?_
  refine lv_iload_n hx hb dX8_takingBy_37 rfl (lv_at hl 3 rfl) ?_
  refine lv_iload_n hx hb dX8_takingBy_38 rfl (lv_at hl 4 rfl) ?_
  refine ro_i (D := D) (va_runV (As := [.int (nI sn), .int p0, .int (nI i)]) (rest := [.int (nI sn), .ref (a 0), .int r_4, .int x_3]) ⟨hx, hb, hml, hown, hts⟩ ((n_tick l D k st lo a tx t0 we rd ru rw ca fp wd nu na ts df db sd dn se tm gs sn p0 (nI i) (by first | assumption | omega)) H.size) (cwV 3 hts (gV tw_1230 tw_1232 tw_45 tw_87 tw_1233) rfl rfl rfl (by decide +kernel) ⟨Nat.le_of_ble_eq_true rfl, Nat.le_of_ble_eq_true rfl⟩) (pV hS hAlo hlo hP hK hDL hZ [0, 1, 2] (by decide) rfl (ci := 8) (q := (RX8, TX8, 44)) (q0 := 0) rfl rfl) rfl rfl hl.1 rfl (lv_room (Nat.le_of_ble_eq_true rfl)) dX8_takingBy_39 ⟨Nat.le_of_ble_eq_true rfl, Nat.le_of_ble_eq_true rfl⟩) hS hA hP (fun r_5 H locs hw_5 hP hS => ?_)
  try dsimp only at hw_5
  refine lv_iload hx hb dX8_takingBy_42 (lv_at hl 0 rfl) ?_
  refine lv_iadd hx hb dX8_takingBy_44 ?_
  refine lv_topi (fun x_6 ex_6 => ?_)
  refine lv_iload_n hx hb dX8_takingBy_45 rfl (lv_at hl 4 rfl) ?_
  refine lv_isub hx hb dX8_takingBy_46 ?_
  refine lv_topi (fun x_7 ex_7 => ?_)
  refine ro_i (D := D) (va_runV (As := [.int (nI sn), .int x_7]) (rest := [.int r_4, .int x_3]) ⟨hx, hb, hml, hown, hts⟩ ((n_lateAt l D k st lo a tx t0 we rd ru rw ca fp wd nu na ts df db sd se tm gs sn x_7 (by first | assumption | omega)) H.size) (cwV 2 hts (gV tw_1234 tw_1236 tw_46 tw_87 tw_1237) rfl rfl rfl (by decide +kernel) ⟨Nat.le_of_ble_eq_true rfl, Nat.le_of_ble_eq_true rfl⟩) (pV hS hAlo hlo hP hK hDL hZ [0, 2] (by decide) rfl (ci := 8) (q := (RX8, TX8, 44)) (q0 := 0) rfl rfl) rfl rfl hl.1 rfl (lv_room (Nat.le_of_ble_eq_true rfl)) dX8_takingBy_47 ⟨Nat.le_of_ble_eq_true rfl, Nat.le_of_ble_eq_true rfl⟩) hS hA hP (fun r_8 H locs hw_8 hP hS => ?_)
  try dsimp only at hw_8
  refine lv_imul hx hb dX8_takingBy_50 ?_
  refine lv_topi (fun x_9 ex_9 => ?_)
  refine lv_iadd hx hb dX8_takingBy_51 ?_
  refine lv_topi (fun x_10 ex_10 => ?_)
  refine lv_sipush (v := 1000) hx hb dX8_takingBy_52 (by decide) ?_
  refine lv_imul hx hb dX8_takingBy_55 ?_
  refine lv_topi (fun x_11 ex_11 => ?_)
  exact W.iret (v := x_11) hx hb hr (fun t ht hW => ⟨⟨x_11, (), rfl, (by show _ = fM_takingBy dn se tm gs fprices sn i p0 p2; unfold fM_takingBy; first | (rw [ex_11, ex_10, ex_9, hw_8, ex_7, ex_6, hw_5, hw_4, ex_3, ex_2, ex_1]; done) | (rw [ex_11, ex_10, ex_9, hw_8, ex_7, ex_6, hw_5, hw_4, ex_3, ex_2, ex_1]; rfl) | (simp only [ex_11, ex_10, ex_9, hw_8, ex_7, ex_6, hw_5, hw_4, ex_3, ex_2, ex_1]; done)), trivial⟩, hS.F ht⟩) hS.2.2 dX8_takingBy_56


def fM_taking (dn : Nat → Nat) (se : Nat → Nat) (tm : Nat → Nat) (gs : Nat → Int32) (fprices : Nat → Int32) (sn : Nat) (i : Nat) (p0 : Int32) : Int32 := (fM_takingBy dn se tm gs fprices sn i p0 (sg se tm gs (9 * sn + 1)))
set_option maxHeartbeats 4000000 in
set_option maxRecDepth 100000 in
theorem n_takingOf (l : Launch) (D : va_G) (k : Nat → ClassId) (st : Nat → Nat) (lo : Nat) (a : Nat → Nat) (tx : Nat) (t0 : Nat) (we : Nat) (rd : Nat) (ru : Nat) (rw : Nat) (ca : Nat) (fp : Int32) (wd : Int64) (nu : Int32) (na : Int32) (ts : Int32) (df : Int32) (db : Int32) (sd : Int32) (dn : Nat → Nat) (se : Nat → Nat) (tm : Nat → Nat) (gs : Nat → Int32) (fprices : Nat → Int32) (sn : Nat) (i : Nat) (p0 : Int32)  (hs : sn < 3) (hi : i < 24) : CRi l D k st lo yX8_takingOf cX8_takingOf 4 (some .int) ({ frames := 3, cells := 0, slots := 0, locals := 70 }) [.ref (a 0), .int (nI sn), .int p0, .int (nI i)] [((a 0), .inr (8, (fX8 a (nI tx) fp (nI t0) wd (nI we) nu na (nI rd) ts (nI ru) (nI rw) (nI ca) df db sd))), (aI k (a 1) 3 (nF dn)), (aI k (a 4) 27 (sg se tm gs)), (aI k (a 3) 72 fprices)] (fun r => r = fM_taking dn se tm gs fprices sn i p0) := by
  intro sz
  refine Met.ofW (cc := cX8_takingOf) (maxL := 4) (ret := (some .int)) (by decide) rfl ?_
  intro p e s m args below meth c s₁ B hml hv
  obtain ⟨rfl, hsz, hlo, hP, hK, hDL, hZ⟩ := hv
  have hx := B.exec
  have hb := B.bytes
  have hr := B.returns
  have hts := WS_ts B.pre
  have hown : s.vm.findClass RX8 = some m.cls := findClass_of_methodNamed B.named
  have hlocks := B.notSynchronized
  subst hsz
  have hA : ∀ q : Nat, s.heap.size ≤ q → (fun q : Nat => s.heap.size ≤ q) q := fun _ h => h
  have hAlo : ∀ q : Nat, (fun q : Nat => s.heap.size ≤ q) q → lo ≤ q := fun q h => Nat.le_trans hlo h
  have hS : va_S (fun q : Nat => s.heap.size ≤ q) s.heap s.heap [] := va_S.rf
  have hl := lv_entry ([.ref (a 0), .int (nI sn), .int p0, .int (nI i)]) (n := 4) (Nat.le_of_ble_eq_true rfl)
  rw [lg_entry_eq]
  generalize (lg_sl ([.ref (a 0), .int (nI sn), .int p0, .int (nI i)]) ++ List.replicate (4 - (lg_sl ([.ref (a 0), .int (nI sn), .int p0, .int (nI i)])).length) Slot.unset).toArray = ls at hl ⊢
  have hl : lv_has ls 4 [(0, .ref (a 0)), (1, .int (nI sn)), (2, .int p0), (3, .int (nI i))] := hl
  refine lv_aload_n hx hb dX8_takingOf_0 rfl (lv_at hl 0 rfl) ?_
  refine lv_iload_n hx hb dX8_takingOf_1 rfl (lv_at hl 1 rfl) ?_
  refine lv_iload_n hx hb dX8_takingOf_2 rfl (lv_at hl 2 rfl) ?_
  refine lv_iload_n hx hb dX8_takingOf_3 rfl (lv_at hl 3 rfl) ?_
  refine lv_aload_n hx hb dX8_takingOf_4 rfl (lv_at hl 0 rfl) ?_
  refine lv_iload_n hx hb dX8_takingOf_5 rfl (lv_at hl 1 rfl) ?_
  refine lv_iconst (v := 1) hx hb dX8_takingOf_6 (by decide) ?_
  refine ro_i (D := D) (va_runV (As := [.int (nI sn), .int 1]) (rest := [.int (nI i), .int p0, .int (nI sn), .ref (a 0)]) ⟨hx, hb, hml, hown, hts⟩ ((m_of l D k st lo a tx t0 we rd ru rw ca fp wd nu na ts df db sd se tm gs sn 1 (by first | assumption | omega) (by first | assumption | omega)) s.heap.size) (cwV 2 hts (gV tw_1194 tw_1196 tw_39 tw_87 tw_1197) rfl rfl rfl (by decide +kernel) ⟨Nat.le_of_ble_eq_true rfl, Nat.le_of_ble_eq_true rfl⟩) (pV hS hAlo hlo hP hK hDL hZ [0, 2] (by decide) rfl (ci := 8) (q := (RX8, TX8, 44)) (q0 := 0) rfl rfl) rfl rfl hl.1 rfl (lv_room (Nat.le_of_ble_eq_true rfl)) dX8_takingOf_7 ⟨Nat.le_of_ble_eq_true rfl, Nat.le_of_ble_eq_true rfl⟩) hS hA hP (fun r_1 H locs hw_1 hP hS => ?_)
  try dsimp only at hw_1
  refine ro_i (D := D) (va_runV (As := [.int (nI sn), .int p0, .int (nI i), .int r_1]) (rest := []) ⟨hx, hb, hml, hown, hts⟩ ((n_takingBy l D k st lo a tx t0 we rd ru rw ca fp wd nu na ts df db sd dn se tm gs fprices sn i p0 r_1 (by first | assumption | omega) (by first | assumption | omega)) H.size) (cwV 4 hts (gV tw_1226 tw_1228 tw_44 tw_87 tw_1229) rfl rfl rfl (by decide +kernel) ⟨Nat.le_of_ble_eq_true rfl, Nat.le_of_ble_eq_true rfl⟩) (pV hS hAlo hlo hP hK hDL hZ [0, 1, 2, 3] (by decide) rfl (ci := 8) (q := (RX8, TX8, 44)) (q0 := 0) rfl rfl) rfl rfl hl.1 rfl (lv_room (Nat.le_of_ble_eq_true rfl)) dX8_takingOf_10 ⟨Nat.le_of_ble_eq_true rfl, Nat.le_of_ble_eq_true rfl⟩) hS hA hP (fun r_2 H locs hw_2 hP hS => ?_)
  try dsimp only at hw_2
  exact W.iret (v := r_2) hx hb hr (fun t ht hW => ⟨⟨r_2, (), rfl, (by show _ = fM_taking dn se tm gs fprices sn i p0; unfold fM_taking; first | (rw [hw_2, hw_1]; done) | (rw [hw_2, hw_1]; rfl) | (simp only [hw_2, hw_1]; done)), trivial⟩, hS.F ht⟩) hS.2.2 dX8_takingOf_13


def fM_garage (dn : Nat → Nat) (se : Nat → Nat) (tm : Nat → Nat) (gs : Nat → Int32) (sn : Nat) (p0 : Int32) : Int32 := (((sg se tm gs (9 * sn + 8)) + ((sg se tm gs (9 * sn + 3)) * (fM_late se tm gs sn (fM_tick dn se tm gs sn p0 (nI (dn sn)))))) * 1000)
set_option maxHeartbeats 4000000 in
set_option maxRecDepth 100000 in
theorem n_garageOf (l : Launch) (D : va_G) (k : Nat → ClassId) (st : Nat → Nat) (lo : Nat) (a : Nat → Nat) (tx : Nat) (t0 : Nat) (we : Nat) (rd : Nat) (ru : Nat) (rw : Nat) (ca : Nat) (fp : Int32) (wd : Int64) (nu : Int32) (na : Int32) (ts : Int32) (df : Int32) (db : Int32) (sd : Int32) (dn : Nat → Nat) (se : Nat → Nat) (tm : Nat → Nat) (gs : Nat → Int32) (sn : Nat) (p0 : Int32)  (hs : sn < 3) : CRi l D k st lo yX8_garageOf cX8_garageOf 3 (some .int) ({ frames := 2, cells := 0, slots := 0, locals := 45 }) [.ref (a 0), .int (nI sn), .int p0] [((a 0), .inr (8, (fX8 a (nI tx) fp (nI t0) wd (nI we) nu na (nI rd) ts (nI ru) (nI rw) (nI ca) df db sd))), (aI k (a 1) 3 (nF dn)), (aI k (a 4) 27 (sg se tm gs))] (fun r => r = fM_garage dn se tm gs sn p0) := by
  intro sz
  refine Met.ofW (cc := cX8_garageOf) (maxL := 3) (ret := (some .int)) (by decide) rfl ?_
  intro p e s m args below meth c s₁ B hml hv
  obtain ⟨rfl, hsz, hlo, hP, hK, hDL, hZ⟩ := hv
  have hx := B.exec
  have hb := B.bytes
  have hr := B.returns
  have hts := WS_ts B.pre
  have hown : s.vm.findClass RX8 = some m.cls := findClass_of_methodNamed B.named
  have hlocks := B.notSynchronized
  subst hsz
  have hA : ∀ q : Nat, s.heap.size ≤ q → (fun q : Nat => s.heap.size ≤ q) q := fun _ h => h
  have hAlo : ∀ q : Nat, (fun q : Nat => s.heap.size ≤ q) q → lo ≤ q := fun q h => Nat.le_trans hlo h
  have hS : va_S (fun q : Nat => s.heap.size ≤ q) s.heap s.heap [] := va_S.rf
  have hl := lv_entry ([.ref (a 0), .int (nI sn), .int p0]) (n := 3) (Nat.le_of_ble_eq_true rfl)
  rw [lg_entry_eq]
  generalize (lg_sl ([.ref (a 0), .int (nI sn), .int p0]) ++ List.replicate (3 - (lg_sl ([.ref (a 0), .int (nI sn), .int p0])).length) Slot.unset).toArray = ls at hl ⊢
  have hl : lv_has ls 3 [(0, .ref (a 0)), (1, .int (nI sn)), (2, .int p0)] := hl
  refine lv_aload_n hx hb dX8_garageOf_0 rfl (lv_at hl 0 rfl) ?_
  refine lv_iload_n hx hb dX8_garageOf_1 rfl (lv_at hl 1 rfl) ?_
  refine lv_bipush (v := 8) hx hb dX8_garageOf_2 (by decide) ?_
  refine ro_i (D := D) (va_runV (As := [.int (nI sn), .int 8]) (rest := []) ⟨hx, hb, hml, hown, hts⟩ ((m_of l D k st lo a tx t0 we rd ru rw ca fp wd nu na ts df db sd se tm gs sn 8 (by first | assumption | omega) (by first | assumption | omega)) s.heap.size) (cwV 2 hts (gV tw_1194 tw_1196 tw_39 tw_87 tw_1197) rfl rfl rfl (by decide +kernel) ⟨Nat.le_of_ble_eq_true rfl, Nat.le_of_ble_eq_true rfl⟩) (pV hS hAlo hlo hP hK hDL hZ [0, 2] (by decide) rfl (ci := 8) (q := (RX8, TX8, 44)) (q0 := 0) rfl rfl) rfl rfl hl.1 rfl (lv_room (Nat.le_of_ble_eq_true rfl)) dX8_garageOf_4 ⟨Nat.le_of_ble_eq_true rfl, Nat.le_of_ble_eq_true rfl⟩) hS hA hP (fun r_1 H locs hw_1 hP hS => ?_)
  try dsimp only at hw_1
  refine lv_aload_n hx hb dX8_garageOf_7 rfl (lv_at hl 0 rfl) ?_
  refine lv_iload_n hx hb dX8_garageOf_8 rfl (lv_at hl 1 rfl) ?_
  refine lv_iconst (v := 3) hx hb dX8_garageOf_9 (by decide) ?_
  refine ro_i (D := D) (va_runV (As := [.int (nI sn), .int 3]) (rest := [.int r_1]) ⟨hx, hb, hml, hown, hts⟩ ((m_of l D k st lo a tx t0 we rd ru rw ca fp wd nu na ts df db sd se tm gs sn 3 (by first | assumption | omega) (by first | assumption | omega)) H.size) (cwV 2 hts (gV tw_1194 tw_1196 tw_39 tw_87 tw_1197) rfl rfl rfl (by decide +kernel) ⟨Nat.le_of_ble_eq_true rfl, Nat.le_of_ble_eq_true rfl⟩) (pV hS hAlo hlo hP hK hDL hZ [0, 2] (by decide) rfl (ci := 8) (q := (RX8, TX8, 44)) (q0 := 0) rfl rfl) rfl rfl hl.1 rfl (lv_room (Nat.le_of_ble_eq_true rfl)) dX8_garageOf_10 ⟨Nat.le_of_ble_eq_true rfl, Nat.le_of_ble_eq_true rfl⟩) hS hA hP (fun r_2 H locs hw_2 hP hS => ?_)
  try dsimp only at hw_2
  refine lv_aload_n hx hb dX8_garageOf_13 rfl (lv_at hl 0 rfl) ?_
  refine lv_iload_n hx hb dX8_garageOf_14 rfl (lv_at hl 1 rfl) ?_
  refine lv_aload_n hx hb dX8_garageOf_15 rfl (lv_at hl 0 rfl) ?_
  refine lv_iload_n hx hb dX8_garageOf_16 rfl (lv_at hl 1 rfl) ?_
  refine lv_iload_n hx hb dX8_garageOf_17 rfl (lv_at hl 2 rfl) ?_
  refine lv_aload_n hx hb dX8_garageOf_18 rfl (lv_at hl 0 rfl) ?_
  refine va_get (D := D) (ci := 8) (v := .ref (a 1)) (C := RX8) (T := TX8) (N := 44) hx hb hts inX8 hown hK hP 0 rfl rfl 0 (by decide) (hts _ tw_973) (fun _ h9 => h9) rfl dX8_garageOf_19 ?_
  refine lv_iload_n hx hb dX8_garageOf_22 rfl (lv_at hl 1 rfl) ?_
  refine va_iald hx hb hK hP 1 1 rfl rfl (vp_in_nI (by omega) (by decide)) dX8_garageOf_23 ?_
  refine lv_ti (y := (nI (dn sn))) (by rw [nI_clamp (by omega)]; rfl) ?_
  refine ro_i (D := D) (va_runV (As := [.int (nI sn), .int p0, .int (nI (dn sn))]) (rest := [.int (nI sn), .ref (a 0), .int r_2, .int r_1]) ⟨hx, hb, hml, hown, hts⟩ ((n_tick l D k st lo a tx t0 we rd ru rw ca fp wd nu na ts df db sd dn se tm gs sn p0 (nI (dn sn)) (by first | assumption | omega)) H.size) (cwV 3 hts (gV tw_1230 tw_1232 tw_45 tw_87 tw_1233) rfl rfl rfl (by decide +kernel) ⟨Nat.le_of_ble_eq_true rfl, Nat.le_of_ble_eq_true rfl⟩) (pV hS hAlo hlo hP hK hDL hZ [0, 1, 2] (by decide) rfl (ci := 8) (q := (RX8, TX8, 44)) (q0 := 0) rfl rfl) rfl rfl hl.1 rfl (lv_room (Nat.le_of_ble_eq_true rfl)) dX8_garageOf_24 ⟨Nat.le_of_ble_eq_true rfl, Nat.le_of_ble_eq_true rfl⟩) hS hA hP (fun r_3 H locs hw_3 hP hS => ?_)
  try dsimp only at hw_3
  refine ro_i (D := D) (va_runV (As := [.int (nI sn), .int r_3]) (rest := [.int r_2, .int r_1]) ⟨hx, hb, hml, hown, hts⟩ ((n_lateAt l D k st lo a tx t0 we rd ru rw ca fp wd nu na ts df db sd se tm gs sn r_3 (by first | assumption | omega)) H.size) (cwV 2 hts (gV tw_1234 tw_1236 tw_46 tw_87 tw_1237) rfl rfl rfl (by decide +kernel) ⟨Nat.le_of_ble_eq_true rfl, Nat.le_of_ble_eq_true rfl⟩) (pV hS hAlo hlo hP hK hDL hZ [0, 2] (by decide) rfl (ci := 8) (q := (RX8, TX8, 44)) (q0 := 0) rfl rfl) rfl rfl hl.1 rfl (lv_room (Nat.le_of_ble_eq_true rfl)) dX8_garageOf_27 ⟨Nat.le_of_ble_eq_true rfl, Nat.le_of_ble_eq_true rfl⟩) hS hA hP (fun r_4 H locs hw_4 hP hS => ?_)
  try dsimp only at hw_4
  refine lv_imul hx hb dX8_garageOf_30 ?_
  refine lv_topi (fun x_5 ex_5 => ?_)
  refine lv_iadd hx hb dX8_garageOf_31 ?_
  refine lv_topi (fun x_6 ex_6 => ?_)
  refine lv_sipush (v := 1000) hx hb dX8_garageOf_32 (by decide) ?_
  refine lv_imul hx hb dX8_garageOf_35 ?_
  refine lv_topi (fun x_7 ex_7 => ?_)
  exact W.iret (v := x_7) hx hb hr (fun t ht hW => ⟨⟨x_7, (), rfl, (by show _ = fM_garage dn se tm gs sn p0; unfold fM_garage; first | (rw [ex_7, ex_6, ex_5, hw_4, hw_3, hw_2, hw_1]; done) | (rw [ex_7, ex_6, ex_5, hw_4, hw_3, hw_2, hw_1]; rfl) | (simp only [ex_7, ex_6, ex_5, hw_4, hw_3, hw_2, hw_1]; done)), trivial⟩, hS.F ht⟩) hS.2.2 dX8_garageOf_36


def fX_arrival (n : Nat) (g : Nat → Int32) (rn : Nat) : Int32 := (((nI rn) * ((nI n) + (g 7))) + (nI n))
set_option maxHeartbeats 4000000 in
set_option maxRecDepth 100000 in
theorem y_arrivalOf (l : Launch) (D : va_G) (k : Nat → ClassId) (st : Nat → Nat) (lo : Nat) (h0 : Nat) (h1 : Nat) (h2 : Nat) (h3 : Nat) (h4 : Nat) (n : Nat) (see : Nat) (tm : Nat) (g : Nat → Int32) (rn : Nat)  : CRi l D k st lo yX5_arrivalOf cX5_arrivalOf 2 (some .int) ({ frames := 0, cells := 0, slots := 0, locals := 0 }) [.ref h0, .int (nI rn)] [(h0, .inr (5, (fX5 h1 h2 h3 h4))), (aI k h1 10 (vv n see tm g))] (fun r => r = fX_arrival n g rn) := by
  intro sz
  refine Met.ofW (cc := cX5_arrivalOf) (maxL := 2) (ret := (some .int)) (by decide) rfl ?_
  intro p e s m args below meth c s₁ B hml hv
  obtain ⟨rfl, hsz, hlo, hP, hK, hDL, hZ⟩ := hv
  have hx := B.exec
  have hb := B.bytes
  have hr := B.returns
  have hts := WS_ts B.pre
  have hown : s.vm.findClass RX5 = some m.cls := findClass_of_methodNamed B.named
  have hlocks := B.notSynchronized
  subst hsz
  have hA : ∀ q : Nat, s.heap.size ≤ q → (fun q : Nat => s.heap.size ≤ q) q := fun _ h => h
  have hAlo : ∀ q : Nat, (fun q : Nat => s.heap.size ≤ q) q → lo ≤ q := fun q h => Nat.le_trans hlo h
  have hS : va_S (fun q : Nat => s.heap.size ≤ q) s.heap s.heap [] := va_S.rf
  have hl := lv_entry ([.ref h0, .int (nI rn)]) (n := 2) (Nat.le_of_ble_eq_true rfl)
  rw [lg_entry_eq]
  generalize (lg_sl ([.ref h0, .int (nI rn)]) ++ List.replicate (2 - (lg_sl ([.ref h0, .int (nI rn)])).length) Slot.unset).toArray = ls at hl ⊢
  have hl : lv_has ls 2 [(0, .ref h0), (1, .int (nI rn))] := hl
  refine lv_iload_n hx hb dX5_arrivalOf_0 rfl (lv_at hl 1 rfl) ?_
  refine lv_aload_n hx hb dX5_arrivalOf_1 rfl (lv_at hl 0 rfl) ?_
  refine va_get (D := D) (ci := 5) (v := .ref h1) (C := RX5) (T := TX5) (N := 4) hx hb hts inX5 hown hK hP 0 rfl rfl 0 (by decide) (hts _ tw_146) (fun _ h9 => h9) rfl dX5_arrivalOf_2 ?_
  refine lv_iconst (v := 0) hx hb dX5_arrivalOf_5 (by decide) ?_
  refine va_iald hx hb hK hP 1 1 rfl rfl (by unfold vp_in; decide) dX5_arrivalOf_6 ?_
  refine lv_ti (y := (nI n)) (by rfl) ?_
  refine lv_aload_n hx hb dX5_arrivalOf_7 rfl (lv_at hl 0 rfl) ?_
  refine va_get (D := D) (ci := 5) (v := .ref h1) (C := RX5) (T := TX5) (N := 4) hx hb hts inX5 hown hK hP 0 rfl rfl 0 (by decide) (hts _ tw_146) (fun _ h9 => h9) rfl dX5_arrivalOf_8 ?_
  refine lv_bipush (v := 7) hx hb dX5_arrivalOf_11 (by decide) ?_
  refine va_iald hx hb hK hP 1 1 rfl rfl (by unfold vp_in; decide) dX5_arrivalOf_13 ?_
  refine lv_ti (y := (g 7)) (by rfl) ?_
  refine lv_iadd hx hb dX5_arrivalOf_14 ?_
  refine lv_topi (fun x_1 ex_1 => ?_)
  refine lv_imul hx hb dX5_arrivalOf_15 ?_
  refine lv_topi (fun x_2 ex_2 => ?_)
  refine lv_aload_n hx hb dX5_arrivalOf_16 rfl (lv_at hl 0 rfl) ?_
  refine va_get (D := D) (ci := 5) (v := .ref h1) (C := RX5) (T := TX5) (N := 4) hx hb hts inX5 hown hK hP 0 rfl rfl 0 (by decide) (hts _ tw_146) (fun _ h9 => h9) rfl dX5_arrivalOf_17 ?_
  refine lv_iconst (v := 0) hx hb dX5_arrivalOf_20 (by decide) ?_
  refine va_iald hx hb hK hP 1 1 rfl rfl (by unfold vp_in; decide) dX5_arrivalOf_21 ?_
  refine lv_ti (y := (nI n)) (by rfl) ?_
  refine lv_iadd hx hb dX5_arrivalOf_22 ?_
  refine lv_topi (fun x_3 ex_3 => ?_)
  exact W.iret (v := x_3) hx hb hr (fun t ht hW => ⟨⟨x_3, (), rfl, (by show _ = fX_arrival n g rn; unfold fX_arrival; first | (rw [ex_3, ex_2, ex_1]; done) | (rw [ex_3, ex_2, ex_1]; rfl) | (simp only [ex_3, ex_2, ex_1]; done)), trivial⟩, hS.F ht⟩) hS.2.2 dX5_arrivalOf_23


def fX_chance (g : Nat → Int32) (ff : Nat → Int32) (i : Nat) (p1 : Int32) : Int32 := (if i = 0 then (ff i) else (if 0 < (if (if p1 = 0 then ((ff i) - (g 1)) else ((ff i) + (g 1))) < 100 then (if p1 = 0 then ((ff i) - (g 1)) else ((ff i) + (g 1))) else 100) then (if (if p1 = 0 then ((ff i) - (g 1)) else ((ff i) + (g 1))) < 100 then (if p1 = 0 then ((ff i) - (g 1)) else ((ff i) + (g 1))) else 100) else 0))
set_option maxHeartbeats 4000000 in
set_option maxRecDepth 100000 in
theorem y_chanceOf (l : Launch) (D : va_G) (k : Nat → ClassId) (st : Nat → Nat) (lo : Nat) (h0 : Nat) (h1 : Nat) (h2 : Nat) (h3 : Nat) (h4 : Nat) (n : Nat) (see : Nat) (tm : Nat) (g : Nat → Int32) (ff : Nat → Int32) (i : Nat) (p1 : Int32) (hi : i < 24) : CRi l D k st lo yX5_chanceOf cX5_chanceOf 4 (some .int) ({ frames := 1, cells := 0, slots := 0, locals := 60 }) [.ref h0, .int (nI i), .int p1] [(h0, .inr (5, (fX5 h1 h2 h3 h4))), (aI k h1 10 (vv n see tm g)), (aI k h2 24 ff)] (fun r => r = fX_chance g ff i p1) := by
  intro sz
  refine Met.ofW (cc := cX5_chanceOf) (maxL := 4) (ret := (some .int)) (by decide) rfl ?_
  intro p e s m args below meth c s₁ B hml hv
  obtain ⟨rfl, hsz, hlo, hP, hK, hDL, hZ⟩ := hv
  have hx := B.exec
  have hb := B.bytes
  have hr := B.returns
  have hts := WS_ts B.pre
  have hown : s.vm.findClass RX5 = some m.cls := findClass_of_methodNamed B.named
  have hlocks := B.notSynchronized
  subst hsz
  have hA : ∀ q : Nat, s.heap.size ≤ q → (fun q : Nat => s.heap.size ≤ q) q := fun _ h => h
  have hAlo : ∀ q : Nat, (fun q : Nat => s.heap.size ≤ q) q → lo ≤ q := fun q h => Nat.le_trans hlo h
  have hS : va_S (fun q : Nat => s.heap.size ≤ q) s.heap s.heap [] := va_S.rf
  have hl := lv_entry ([.ref h0, .int (nI i), .int p1]) (n := 4) (Nat.le_of_ble_eq_true rfl)
  rw [lg_entry_eq]
  generalize (lg_sl ([.ref h0, .int (nI i), .int p1]) ++ List.replicate (4 - (lg_sl ([.ref h0, .int (nI i), .int p1])).length) Slot.unset).toArray = ls at hl ⊢
  have hl : lv_has ls 4 [(0, .ref h0), (1, .int (nI i)), (2, .int p1)] := hl
  refine lv_iload_n hx hb dX5_chanceOf_0 rfl (lv_at hl 1 rfl) ?_
  refine lv_if_ne (tgt := 11) hx hb dX5_chanceOf_1 (by decide) (fun c_1 => ?_) (fun c_1 => ?_)
  · have c_1 : ¬ (i = 0) := fun h => c_1 ((nI_eq (a := i) (b := 0) (by omega) (by omega)).mpr h)
    refine lv_iload_n hx hb dX5_chanceOf_11 rfl (lv_at hl 2 rfl) ?_
    refine W_join (fun (x_5 : Int32) (H : Heap) (locs : List Loc) (ls : Array Slot) => x_5 = (if p1 = 0 then ((ff i) - (g 1)) else ((ff i) + (g 1))) ∧ va_P D classes [(h0, .inr (5, (fX5 h1 h2 h3 h4))), (aI k h1 10 (vv n see tm g)), (aI k h2 24 ff)] H ∧ va_S (fun q : Nat => s.heap.size ≤ q) s.heap H locs ∧ lv_has ls 4 [(2, .int p1), (1, .int (nI i)), (0, .ref h0)]) (fun (x_5 : Int32) => [.int x_5]) 44 (fun x_5 H locs ls hJ => ?_) (fun J_5 => ?_)
    · obtain ⟨hj_5, hP, hS, hl⟩ := hJ
      show W p l e _ s m _ below meth c H locs _ _ _ (F0 m 44 ls [.int x_5])
      refine lv_istore_n (lv' := [(3, .int x_5), (2, .int p1), (1, .int (nI i)), (0, .ref h0)]) hx hb dX5_chanceOf_44 rfl hl (by decide) rfl (fun ls hl => ?_)
      refine lv_iconst (v := 0) hx hb dX5_chanceOf_45 (by decide) ?_
      refine lv_bipush (v := 100) hx hb dX5_chanceOf_46 (by decide) ?_
      refine lv_iload_n hx hb dX5_chanceOf_48 rfl (lv_at hl 0 rfl) ?_
      refine va_mmin hx hb (by rw [hml]; exact hl.1.symm) hown (hts _ tw_540) (hts _ tw_529) (hts _ tw_93) (hts _ tw_530) (Nat.le_of_ble_eq_true rfl) (Nat.le_of_ble_eq_true rfl) (Nat.le_of_ble_eq_true rfl) (Nat.le_of_ble_eq_true rfl) dX5_chanceOf_49 ?_
      refine lv_topi (fun x_6 ex_6 => ?_)
      refine va_mmax hx hb (by rw [hml]; exact hl.1.symm) hown (hts _ tw_509) (hts _ tw_510) (hts _ tw_93) (hts _ tw_511) (Nat.le_of_ble_eq_true rfl) (Nat.le_of_ble_eq_true rfl) (Nat.le_of_ble_eq_true rfl) (Nat.le_of_ble_eq_true rfl) dX5_chanceOf_52 ?_
      refine lv_topi (fun x_7 ex_7 => ?_)
      exact W.iret (v := x_7) hx hb hr (fun t ht hW => ⟨⟨x_7, (), rfl, (by show _ = fX_chance g ff i p1; unfold fX_chance; first | (rw [if_neg c_1, ex_7, ex_6, hj_5]; done) | (rw [if_neg c_1, ex_7, ex_6, hj_5]; rfl) | (simp only [if_neg c_1, ex_7, ex_6, hj_5]; done)), trivial⟩, hS.F ht⟩) hS.2.2 dX5_chanceOf_55
    · refine lv_if_eq (tgt := 31) hx hb dX5_chanceOf_12 (by decide) (fun c_8 => ?_) (fun c_8 => ?_)
      · refine lv_aload_n hx hb dX5_chanceOf_31 rfl (lv_at hl 0 rfl) ?_
        refine va_get (D := D) (ci := 5) (v := .ref h2) (C := RX5) (T := TX5) (N := 4) hx hb hts inX5 hown hK hP 0 rfl rfl 1 (by decide) (hts _ tw_150) (fun _ h9 => h9) rfl dX5_chanceOf_32 ?_
        refine lv_iload_n hx hb dX5_chanceOf_35 rfl (lv_at hl 1 rfl) ?_
        refine va_iald hx hb hK hP 2 1 rfl rfl (vp_in_nI (by omega) (by decide)) dX5_chanceOf_36 ?_
        refine lv_ti (y := (ff i)) (by rw [nI_clamp (by omega)]) ?_
        refine lv_aload_n hx hb dX5_chanceOf_37 rfl (lv_at hl 0 rfl) ?_
        refine va_get (D := D) (ci := 5) (v := .ref h1) (C := RX5) (T := TX5) (N := 4) hx hb hts inX5 hown hK hP 0 rfl rfl 0 (by decide) (hts _ tw_146) (fun _ h9 => h9) rfl dX5_chanceOf_38 ?_
        refine lv_iconst (v := 1) hx hb dX5_chanceOf_41 (by decide) ?_
        refine va_iald hx hb hK hP 1 1 rfl rfl (by unfold vp_in; decide) dX5_chanceOf_42 ?_
        refine lv_ti (y := (g 1)) (by rfl) ?_
        refine lv_isub hx hb dX5_chanceOf_43 ?_
        refine lv_topi (fun x_9 ex_9 => ?_)
        exact J_5 x_9 _ _ _ ⟨(by first | (rw [if_pos c_8, ex_9]; done) | (rw [if_pos c_8, ex_9]; rfl) | (simp only [if_pos c_8, ex_9]; done)), hP, hS, lv_sub hl [2, 1, 0] rfl⟩
      · refine lv_aload_n hx hb dX5_chanceOf_15 rfl (lv_at hl 0 rfl) ?_
        refine va_get (D := D) (ci := 5) (v := .ref h2) (C := RX5) (T := TX5) (N := 4) hx hb hts inX5 hown hK hP 0 rfl rfl 1 (by decide) (hts _ tw_150) (fun _ h9 => h9) rfl dX5_chanceOf_16 ?_
        refine lv_iload_n hx hb dX5_chanceOf_19 rfl (lv_at hl 1 rfl) ?_
        refine va_iald hx hb hK hP 2 1 rfl rfl (vp_in_nI (by omega) (by decide)) dX5_chanceOf_20 ?_
        refine lv_ti (y := (ff i)) (by rw [nI_clamp (by omega)]) ?_
        refine lv_aload_n hx hb dX5_chanceOf_21 rfl (lv_at hl 0 rfl) ?_
        refine va_get (D := D) (ci := 5) (v := .ref h1) (C := RX5) (T := TX5) (N := 4) hx hb hts inX5 hown hK hP 0 rfl rfl 0 (by decide) (hts _ tw_146) (fun _ h9 => h9) rfl dX5_chanceOf_22 ?_
        refine lv_iconst (v := 1) hx hb dX5_chanceOf_25 (by decide) ?_
        refine va_iald hx hb hK hP 1 1 rfl rfl (by unfold vp_in; decide) dX5_chanceOf_26 ?_
        refine lv_ti (y := (g 1)) (by rfl) ?_
        refine lv_iadd hx hb dX5_chanceOf_27 ?_
        refine lv_topi (fun x_10 ex_10 => ?_)
        refine lv_goto (tgt := 44) hx hb dX5_chanceOf_28 (by decide) ?_
        exact J_5 x_10 _ _ _ ⟨(by first | (rw [if_neg c_8, ex_10]; done) | (rw [if_neg c_8, ex_10]; rfl) | (simp only [if_neg c_8, ex_10]; done)), hP, hS, lv_sub hl [2, 1, 0] rfl⟩
  · have c_1 := (nI_eq (a := i) (b := 0) (by omega) (by omega)).mp c_1
    refine lv_aload_n hx hb dX5_chanceOf_4 rfl (lv_at hl 0 rfl) ?_
    refine va_get (D := D) (ci := 5) (v := .ref h2) (C := RX5) (T := TX5) (N := 4) hx hb hts inX5 hown hK hP 0 rfl rfl 1 (by decide) (hts _ tw_150) (fun _ h9 => h9) rfl dX5_chanceOf_5 ?_
    refine lv_iload_n hx hb dX5_chanceOf_8 rfl (lv_at hl 1 rfl) ?_
    refine va_iald hx hb hK hP 2 1 rfl rfl (vp_in_nI (by omega) (by decide)) dX5_chanceOf_9 ?_
    refine lv_ti (y := (ff i)) (by rw [nI_clamp (by omega)]) ?_
    exact W.iret (v := (ff i)) hx hb hr (fun t ht hW => ⟨⟨(ff i), (), rfl, (by show _ = fX_chance g ff i p1; unfold fX_chance; first | (rw [if_pos c_1]; done) | (rw [if_pos c_1]; rfl) | (simp only [if_pos c_1]; done)), trivial⟩, hS.F ht⟩) hS.2.2 dX5_chanceOf_10


def fX_isLate (n : Nat) (g : Nat → Int32) (rn : Nat) : Bool := (if (fX_arrival n g rn) ≤ (g 5) then false else true)
set_option maxHeartbeats 4000000 in
set_option maxRecDepth 100000 in
theorem y_isLateIn (l : Launch) (D : va_G) (k : Nat → ClassId) (st : Nat → Nat) (lo : Nat) (h0 : Nat) (h1 : Nat) (h2 : Nat) (h3 : Nat) (h4 : Nat) (n : Nat) (see : Nat) (tm : Nat) (g : Nat → Int32) (rn : Nat)  : CRi l D k st lo yX5_isLateIn cX5_isLateIn 2 (some .boolean) ({ frames := 1, cells := 0, slots := 0, locals := 21 }) [.ref h0, .int (nI rn)] [(h0, .inr (5, (fX5 h1 h2 h3 h4))), (aI k h1 10 (vv n see tm g))] (fun r => r = (if fX_isLate n g rn = true then 1 else 0)) := by
  intro sz
  refine Met.ofW (cc := cX5_isLateIn) (maxL := 2) (ret := (some .boolean)) (by decide) rfl ?_
  intro p e s m args below meth c s₁ B hml hv
  obtain ⟨rfl, hsz, hlo, hP, hK, hDL, hZ⟩ := hv
  have hx := B.exec
  have hb := B.bytes
  have hr := B.returns
  have hts := WS_ts B.pre
  have hown : s.vm.findClass RX5 = some m.cls := findClass_of_methodNamed B.named
  have hlocks := B.notSynchronized
  subst hsz
  have hA : ∀ q : Nat, s.heap.size ≤ q → (fun q : Nat => s.heap.size ≤ q) q := fun _ h => h
  have hAlo : ∀ q : Nat, (fun q : Nat => s.heap.size ≤ q) q → lo ≤ q := fun q h => Nat.le_trans hlo h
  have hS : va_S (fun q : Nat => s.heap.size ≤ q) s.heap s.heap [] := va_S.rf
  have hl := lv_entry ([.ref h0, .int (nI rn)]) (n := 2) (Nat.le_of_ble_eq_true rfl)
  rw [lg_entry_eq]
  generalize (lg_sl ([.ref h0, .int (nI rn)]) ++ List.replicate (2 - (lg_sl ([.ref h0, .int (nI rn)])).length) Slot.unset).toArray = ls at hl ⊢
  have hl : lv_has ls 2 [(0, .ref h0), (1, .int (nI rn))] := hl
  refine lv_aload_n hx hb dX5_isLateIn_0 rfl (lv_at hl 0 rfl) ?_
  refine lv_iload_n hx hb dX5_isLateIn_1 rfl (lv_at hl 1 rfl) ?_
  refine ro_i (D := D) (va_runV (As := [.int (nI rn)]) (rest := []) ⟨hx, hb, hml, hown, hts⟩ ((y_arrivalOf l D k st lo h0 h1 h2 h3 h4 n see tm g rn) s.heap.size) (cwV 1 hts (gV tw_505 tw_507 tw_3 tw_81 tw_508) rfl rfl rfl (by decide +kernel) ⟨Nat.le_of_ble_eq_true rfl, Nat.le_of_ble_eq_true rfl⟩) (pV hS hAlo hlo hP hK hDL hZ [0, 1] (by decide) rfl (ci := 5) (q := (RX5, TX5, 4)) (q0 := 0) rfl rfl) rfl rfl hl.1 rfl (lv_room (Nat.le_of_ble_eq_true rfl)) dX5_isLateIn_2 ⟨Nat.le_of_ble_eq_true rfl, Nat.le_of_ble_eq_true rfl⟩) hS hA hP (fun r_1 H locs hw_1 hP hS => ?_)
  try dsimp only at hw_1
  refine lv_aload_n hx hb dX5_isLateIn_5 rfl (lv_at hl 0 rfl) ?_
  refine va_get (D := D) (ci := 5) (v := .ref h1) (C := RX5) (T := TX5) (N := 4) hx hb hts inX5 hown hK hP 0 rfl rfl 0 (by decide) (hts _ tw_146) (fun _ h9 => h9) rfl dX5_isLateIn_6 ?_
  refine lv_iconst (v := 5) hx hb dX5_isLateIn_9 (by decide) ?_
  refine va_iald hx hb hK hP 1 1 rfl rfl (by unfold vp_in; decide) dX5_isLateIn_10 ?_
  refine lv_ti (y := (g 5)) (by rfl) ?_
  refine lv_icmp_le (tgt := 18) hx hb dX5_isLateIn_11 (by decide) (fun c_2 => ?_) (fun c_2 => ?_)
  · rw [hw_1] at c_2
    refine lv_iconst (v := 0) hx hb dX5_isLateIn_18 (by decide) ?_
    exact W.zret (v := 0) (ty := .boolean) hx hb hr rfl (fun t ht hW => ⟨⟨0, (), rfl, (by rw [if_neg (show ¬ fX_isLate n g rn = true from (by unfold fX_isLate; first | (rw [if_pos c_2]; done) | (rw [if_pos c_2]; decide)))]), trivial⟩, hS.F ht⟩) hS.2.2 dX5_isLateIn_19
  · rw [hw_1] at c_2
    refine lv_iconst (v := 1) hx hb dX5_isLateIn_14 (by decide) ?_
    refine lv_goto (tgt := 19) hx hb dX5_isLateIn_15 (by decide) ?_
    exact W.zret (v := 1) (ty := .boolean) hx hb hr rfl (fun t ht hW => ⟨⟨1, (), rfl, (by rw [if_pos (show fX_isLate n g rn = true from (by unfold fX_isLate; first | (rw [if_neg c_2]; done) | (rw [if_neg c_2]; decide)))]), trivial⟩, hS.F ht⟩) hS.2.2 dX5_isLateIn_19


def fX_takingBy (n : Nat) (fp : Nat → Int32) (fl : Nat → Int32) (p0 : Int32) (rn : Nat) (i : Nat) : Int32 := ((((fp i) + (p0 * ((nI n) - (nI i)))) + (fl rn)) * 1000)
set_option maxHeartbeats 4000000 in
set_option maxRecDepth 100000 in
theorem y_takingBy (l : Launch) (D : va_G) (k : Nat → ClassId) (st : Nat → Nat) (lo : Nat) (h0 : Nat) (h1 : Nat) (h2 : Nat) (h3 : Nat) (h4 : Nat) (n : Nat) (see : Nat) (tm : Nat) (g : Nat → Int32) (fp : Nat → Int32) (fl : Nat → Int32) (p0 : Int32) (rn : Nat) (i : Nat) (hrn : rn ≤ 3) (hi : i < 24) : CRi l D k st lo yX5_takingBy cX5_takingBy 4 (some .int) ({ frames := 0, cells := 0, slots := 0, locals := 0 }) [.ref h0, .int p0, .int (nI rn), .int (nI i)] [(h0, .inr (5, (fX5 h1 h2 h3 h4))), (aI k h1 10 (vv n see tm g)), (aI k h3 24 fp), (aI k h4 4 fl)] (fun r => r = fX_takingBy n fp fl p0 rn i) := by
  intro sz
  refine Met.ofW (cc := cX5_takingBy) (maxL := 4) (ret := (some .int)) (by decide) rfl ?_
  intro p e s m args below meth c s₁ B hml hv
  obtain ⟨rfl, hsz, hlo, hP, hK, hDL, hZ⟩ := hv
  have hx := B.exec
  have hb := B.bytes
  have hr := B.returns
  have hts := WS_ts B.pre
  have hown : s.vm.findClass RX5 = some m.cls := findClass_of_methodNamed B.named
  have hlocks := B.notSynchronized
  subst hsz
  have hA : ∀ q : Nat, s.heap.size ≤ q → (fun q : Nat => s.heap.size ≤ q) q := fun _ h => h
  have hAlo : ∀ q : Nat, (fun q : Nat => s.heap.size ≤ q) q → lo ≤ q := fun q h => Nat.le_trans hlo h
  have hS : va_S (fun q : Nat => s.heap.size ≤ q) s.heap s.heap [] := va_S.rf
  have hl := lv_entry ([.ref h0, .int p0, .int (nI rn), .int (nI i)]) (n := 4) (Nat.le_of_ble_eq_true rfl)
  rw [lg_entry_eq]
  generalize (lg_sl ([.ref h0, .int p0, .int (nI rn), .int (nI i)]) ++ List.replicate (4 - (lg_sl ([.ref h0, .int p0, .int (nI rn), .int (nI i)])).length) Slot.unset).toArray = ls at hl ⊢
  have hl : lv_has ls 4 [(0, .ref h0), (1, .int p0), (2, .int (nI rn)), (3, .int (nI i))] := hl
  refine lv_aload_n hx hb dX5_takingBy_0 rfl (lv_at hl 0 rfl) ?_
  refine va_get (D := D) (ci := 5) (v := .ref h3) (C := RX5) (T := TX5) (N := 4) hx hb hts inX5 hown hK hP 0 rfl rfl 2 (by decide) (hts _ tw_152) (fun _ h9 => h9) rfl dX5_takingBy_1 ?_
  refine lv_iload_n hx hb dX5_takingBy_4 rfl (lv_at hl 3 rfl) ?_
  refine va_iald hx hb hK hP 2 1 rfl rfl (vp_in_nI (by omega) (by decide)) dX5_takingBy_5 ?_
  refine lv_ti (y := (fp i)) (by rw [nI_clamp (by omega)]) ?_
  refine lv_iload_n hx hb dX5_takingBy_6 rfl (lv_at hl 1 rfl) ?_
  refine lv_aload_n hx hb dX5_takingBy_7 rfl (lv_at hl 0 rfl) ?_
  refine va_get (D := D) (ci := 5) (v := .ref h1) (C := RX5) (T := TX5) (N := 4) hx hb hts inX5 hown hK hP 0 rfl rfl 0 (by decide) (hts _ tw_146) (fun _ h9 => h9) rfl dX5_takingBy_8 ?_
  refine lv_iconst (v := 0) hx hb dX5_takingBy_11 (by decide) ?_
  refine va_iald hx hb hK hP 1 1 rfl rfl (by unfold vp_in; decide) dX5_takingBy_12 ?_
  refine lv_ti (y := (nI n)) (by rfl) ?_
  refine lv_iload_n hx hb dX5_takingBy_13 rfl (lv_at hl 3 rfl) ?_
  refine lv_isub hx hb dX5_takingBy_14 ?_
  refine lv_topi (fun x_1 ex_1 => ?_)
  refine lv_imul hx hb dX5_takingBy_15 ?_
  refine lv_topi (fun x_2 ex_2 => ?_)
  refine lv_iadd hx hb dX5_takingBy_16 ?_
  refine lv_topi (fun x_3 ex_3 => ?_)
  refine lv_aload_n hx hb dX5_takingBy_17 rfl (lv_at hl 0 rfl) ?_
  refine va_get (D := D) (ci := 5) (v := .ref h4) (C := RX5) (T := TX5) (N := 4) hx hb hts inX5 hown hK hP 0 rfl rfl 3 (by decide) (hts _ tw_154) (fun _ h9 => h9) rfl dX5_takingBy_18 ?_
  refine lv_iload_n hx hb dX5_takingBy_21 rfl (lv_at hl 2 rfl) ?_
  refine va_iald hx hb hK hP 3 1 rfl rfl (vp_in_nI (by omega) (by decide)) dX5_takingBy_22 ?_
  refine lv_ti (y := (fl rn)) (by rw [nI_clamp (by omega)]) ?_
  refine lv_iadd hx hb dX5_takingBy_23 ?_
  refine lv_topi (fun x_4 ex_4 => ?_)
  refine lv_sipush (v := 1000) hx hb dX5_takingBy_24 (by decide) ?_
  refine lv_imul hx hb dX5_takingBy_27 ?_
  refine lv_topi (fun x_5 ex_5 => ?_)
  exact W.iret (v := x_5) hx hb hr (fun t ht hW => ⟨⟨x_5, (), rfl, (by show _ = fX_takingBy n fp fl p0 rn i; unfold fX_takingBy; first | (rw [ex_5, ex_4, ex_3, ex_2, ex_1]; done) | (rw [ex_5, ex_4, ex_3, ex_2, ex_1]; rfl) | (simp only [ex_5, ex_4, ex_3, ex_2, ex_1]; done)), trivial⟩, hS.F ht⟩) hS.2.2 dX5_takingBy_28


def fX_taking (n : Nat) (g : Nat → Int32) (fp : Nat → Int32) (fl : Nat → Int32) (rn : Nat) (i : Nat) : Int32 := (fX_takingBy n fp fl (g 2) rn i)
set_option maxHeartbeats 4000000 in
set_option maxRecDepth 100000 in
theorem y_takingOf (l : Launch) (D : va_G) (k : Nat → ClassId) (st : Nat → Nat) (lo : Nat) (h0 : Nat) (h1 : Nat) (h2 : Nat) (h3 : Nat) (h4 : Nat) (n : Nat) (see : Nat) (tm : Nat) (g : Nat → Int32) (fp : Nat → Int32) (fl : Nat → Int32) (rn : Nat) (i : Nat) (hrn : rn ≤ 3) (hi : i < 24) : CRi l D k st lo yX5_takingOf cX5_takingOf 3 (some .int) ({ frames := 1, cells := 0, slots := 0, locals := 23 }) [.ref h0, .int (nI rn), .int (nI i)] [(h0, .inr (5, (fX5 h1 h2 h3 h4))), (aI k h1 10 (vv n see tm g)), (aI k h3 24 fp), (aI k h4 4 fl)] (fun r => r = fX_taking n g fp fl rn i) := by
  intro sz
  refine Met.ofW (cc := cX5_takingOf) (maxL := 3) (ret := (some .int)) (by decide) rfl ?_
  intro p e s m args below meth c s₁ B hml hv
  obtain ⟨rfl, hsz, hlo, hP, hK, hDL, hZ⟩ := hv
  have hx := B.exec
  have hb := B.bytes
  have hr := B.returns
  have hts := WS_ts B.pre
  have hown : s.vm.findClass RX5 = some m.cls := findClass_of_methodNamed B.named
  have hlocks := B.notSynchronized
  subst hsz
  have hA : ∀ q : Nat, s.heap.size ≤ q → (fun q : Nat => s.heap.size ≤ q) q := fun _ h => h
  have hAlo : ∀ q : Nat, (fun q : Nat => s.heap.size ≤ q) q → lo ≤ q := fun q h => Nat.le_trans hlo h
  have hS : va_S (fun q : Nat => s.heap.size ≤ q) s.heap s.heap [] := va_S.rf
  have hl := lv_entry ([.ref h0, .int (nI rn), .int (nI i)]) (n := 3) (Nat.le_of_ble_eq_true rfl)
  rw [lg_entry_eq]
  generalize (lg_sl ([.ref h0, .int (nI rn), .int (nI i)]) ++ List.replicate (3 - (lg_sl ([.ref h0, .int (nI rn), .int (nI i)])).length) Slot.unset).toArray = ls at hl ⊢
  have hl : lv_has ls 3 [(0, .ref h0), (1, .int (nI rn)), (2, .int (nI i))] := hl
  refine lv_aload_n hx hb dX5_takingOf_0 rfl (lv_at hl 0 rfl) ?_
  refine lv_aload_n hx hb dX5_takingOf_1 rfl (lv_at hl 0 rfl) ?_
  refine va_get (D := D) (ci := 5) (v := .ref h1) (C := RX5) (T := TX5) (N := 4) hx hb hts inX5 hown hK hP 0 rfl rfl 0 (by decide) (hts _ tw_146) (fun _ h9 => h9) rfl dX5_takingOf_2 ?_
  refine lv_iconst (v := 2) hx hb dX5_takingOf_5 (by decide) ?_
  refine va_iald hx hb hK hP 1 1 rfl rfl (by unfold vp_in; decide) dX5_takingOf_6 ?_
  refine lv_ti (y := (g 2)) (by rfl) ?_
  refine lv_iload_n hx hb dX5_takingOf_7 rfl (lv_at hl 1 rfl) ?_
  refine lv_iload_n hx hb dX5_takingOf_8 rfl (lv_at hl 2 rfl) ?_
  refine ro_i (D := D) (va_runV (As := [.int (g 2), .int (nI rn), .int (nI i)]) (rest := []) ⟨hx, hb, hml, hown, hts⟩ ((y_takingBy l D k st lo h0 h1 h2 h3 h4 n see tm g fp fl (g 2) rn i (by first | assumption | omega) (by first | assumption | omega)) s.heap.size) (cwV 3 hts (gV tw_560 tw_561 tw_562 tw_81 tw_563) rfl rfl rfl (by decide +kernel) ⟨Nat.le_of_ble_eq_true rfl, Nat.le_of_ble_eq_true rfl⟩) (pV hS hAlo hlo hP hK hDL hZ [0, 1, 2, 3] (by decide) rfl (ci := 5) (q := (RX5, TX5, 4)) (q0 := 0) rfl rfl) rfl rfl hl.1 rfl (lv_room (Nat.le_of_ble_eq_true rfl)) dX5_takingOf_9 ⟨Nat.le_of_ble_eq_true rfl, Nat.le_of_ble_eq_true rfl⟩) hS hA hP (fun r_1 H locs hw_1 hP hS => ?_)
  try dsimp only at hw_1
  exact W.iret (v := r_1) hx hb hr (fun t ht hW => ⟨⟨r_1, (), rfl, (by show _ = fX_taking n g fp fl rn i; unfold fX_taking; first | (rw [hw_1]; done) | (rw [hw_1]; rfl) | (simp only [hw_1]; done)), trivial⟩, hS.F ht⟩) hS.2.2 dX5_takingOf_12


def fX_garage (g : Nat → Int32) (fl : Nat → Int32) (rn : Nat) : Int32 := (((g 9) + (fl rn)) * 1000)
set_option maxHeartbeats 4000000 in
set_option maxRecDepth 100000 in
theorem y_garageOf (l : Launch) (D : va_G) (k : Nat → ClassId) (st : Nat → Nat) (lo : Nat) (h0 : Nat) (h1 : Nat) (h2 : Nat) (h3 : Nat) (h4 : Nat) (n : Nat) (see : Nat) (tm : Nat) (g : Nat → Int32) (fl : Nat → Int32) (rn : Nat) (hrn : rn ≤ 3) : CRi l D k st lo yX5_garageOf cX5_garageOf 2 (some .int) ({ frames := 0, cells := 0, slots := 0, locals := 0 }) [.ref h0, .int (nI rn)] [(h0, .inr (5, (fX5 h1 h2 h3 h4))), (aI k h1 10 (vv n see tm g)), (aI k h4 4 fl)] (fun r => r = fX_garage g fl rn) := by
  intro sz
  refine Met.ofW (cc := cX5_garageOf) (maxL := 2) (ret := (some .int)) (by decide) rfl ?_
  intro p e s m args below meth c s₁ B hml hv
  obtain ⟨rfl, hsz, hlo, hP, hK, hDL, hZ⟩ := hv
  have hx := B.exec
  have hb := B.bytes
  have hr := B.returns
  have hts := WS_ts B.pre
  have hown : s.vm.findClass RX5 = some m.cls := findClass_of_methodNamed B.named
  have hlocks := B.notSynchronized
  subst hsz
  have hA : ∀ q : Nat, s.heap.size ≤ q → (fun q : Nat => s.heap.size ≤ q) q := fun _ h => h
  have hAlo : ∀ q : Nat, (fun q : Nat => s.heap.size ≤ q) q → lo ≤ q := fun q h => Nat.le_trans hlo h
  have hS : va_S (fun q : Nat => s.heap.size ≤ q) s.heap s.heap [] := va_S.rf
  have hl := lv_entry ([.ref h0, .int (nI rn)]) (n := 2) (Nat.le_of_ble_eq_true rfl)
  rw [lg_entry_eq]
  generalize (lg_sl ([.ref h0, .int (nI rn)]) ++ List.replicate (2 - (lg_sl ([.ref h0, .int (nI rn)])).length) Slot.unset).toArray = ls at hl ⊢
  have hl : lv_has ls 2 [(0, .ref h0), (1, .int (nI rn))] := hl
  refine lv_aload_n hx hb dX5_garageOf_0 rfl (lv_at hl 0 rfl) ?_
  refine va_get (D := D) (ci := 5) (v := .ref h1) (C := RX5) (T := TX5) (N := 4) hx hb hts inX5 hown hK hP 0 rfl rfl 0 (by decide) (hts _ tw_146) (fun _ h9 => h9) rfl dX5_garageOf_1 ?_
  refine lv_bipush (v := 9) hx hb dX5_garageOf_4 (by decide) ?_
  refine va_iald hx hb hK hP 1 1 rfl rfl (by unfold vp_in; decide) dX5_garageOf_6 ?_
  refine lv_ti (y := (g 9)) (by rfl) ?_
  refine lv_aload_n hx hb dX5_garageOf_7 rfl (lv_at hl 0 rfl) ?_
  refine va_get (D := D) (ci := 5) (v := .ref h4) (C := RX5) (T := TX5) (N := 4) hx hb hts inX5 hown hK hP 0 rfl rfl 3 (by decide) (hts _ tw_154) (fun _ h9 => h9) rfl dX5_garageOf_8 ?_
  refine lv_iload_n hx hb dX5_garageOf_11 rfl (lv_at hl 1 rfl) ?_
  refine va_iald hx hb hK hP 2 1 rfl rfl (vp_in_nI (by omega) (by decide)) dX5_garageOf_12 ?_
  refine lv_ti (y := (fl rn)) (by rw [nI_clamp (by omega)]) ?_
  refine lv_iadd hx hb dX5_garageOf_13 ?_
  refine lv_topi (fun x_1 ex_1 => ?_)
  refine lv_sipush (v := 1000) hx hb dX5_garageOf_14 (by decide) ?_
  refine lv_imul hx hb dX5_garageOf_17 ?_
  refine lv_topi (fun x_2 ex_2 => ?_)
  exact W.iret (v := x_2) hx hb hr (fun t ht hW => ⟨⟨x_2, (), rfl, (by show _ = fX_garage g fl rn; unfold fX_garage; first | (rw [ex_2, ex_1]; done) | (rw [ex_2, ex_1]; rfl) | (simp only [ex_2, ex_1]; done)), trivial⟩, hS.F ht⟩) hS.2.2 dX5_garageOf_18


def fX_passing (g : Nat → Int32) : Int32 := ((g 3) * 1000)
set_option maxHeartbeats 4000000 in
set_option maxRecDepth 100000 in
theorem y_passing (l : Launch) (D : va_G) (k : Nat → ClassId) (st : Nat → Nat) (lo : Nat) (h0 : Nat) (h1 : Nat) (h2 : Nat) (h3 : Nat) (h4 : Nat) (n : Nat) (see : Nat) (tm : Nat) (g : Nat → Int32)  : CRi l D k st lo yX5_passing cX5_passing 1 (some .int) ({ frames := 0, cells := 0, slots := 0, locals := 0 }) [.ref h0] [(h0, .inr (5, (fX5 h1 h2 h3 h4))), (aI k h1 10 (vv n see tm g))] (fun r => r = fX_passing g) := by
  intro sz
  refine Met.ofW (cc := cX5_passing) (maxL := 1) (ret := (some .int)) (by decide) rfl ?_
  intro p e s m args below meth c s₁ B hml hv
  obtain ⟨rfl, hsz, hlo, hP, hK, hDL, hZ⟩ := hv
  have hx := B.exec
  have hb := B.bytes
  have hr := B.returns
  have hts := WS_ts B.pre
  have hown : s.vm.findClass RX5 = some m.cls := findClass_of_methodNamed B.named
  have hlocks := B.notSynchronized
  subst hsz
  have hA : ∀ q : Nat, s.heap.size ≤ q → (fun q : Nat => s.heap.size ≤ q) q := fun _ h => h
  have hAlo : ∀ q : Nat, (fun q : Nat => s.heap.size ≤ q) q → lo ≤ q := fun q h => Nat.le_trans hlo h
  have hS : va_S (fun q : Nat => s.heap.size ≤ q) s.heap s.heap [] := va_S.rf
  have hl := lv_entry ([.ref h0]) (n := 1) (Nat.le_of_ble_eq_true rfl)
  rw [lg_entry_eq]
  generalize (lg_sl ([.ref h0]) ++ List.replicate (1 - (lg_sl ([.ref h0])).length) Slot.unset).toArray = ls at hl ⊢
  have hl : lv_has ls 1 [(0, .ref h0)] := hl
  refine lv_aload_n hx hb dX5_passing_0 rfl (lv_at hl 0 rfl) ?_
  refine va_get (D := D) (ci := 5) (v := .ref h1) (C := RX5) (T := TX5) (N := 4) hx hb hts inX5 hown hK hP 0 rfl rfl 0 (by decide) (hts _ tw_146) (fun _ h9 => h9) rfl dX5_passing_1 ?_
  refine lv_iconst (v := 3) hx hb dX5_passing_4 (by decide) ?_
  refine va_iald hx hb hK hP 1 1 rfl rfl (by unfold vp_in; decide) dX5_passing_5 ?_
  refine lv_ti (y := (g 3)) (by rfl) ?_
  refine lv_sipush (v := 1000) hx hb dX5_passing_6 (by decide) ?_
  refine lv_imul hx hb dX5_passing_9 ?_
  refine lv_topi (fun x_1 ex_1 => ?_)
  exact W.iret (v := x_1) hx hb hr (fun t ht hW => ⟨⟨x_1, (), rfl, (by show _ = fX_passing g; unfold fX_passing; first | (rw [ex_1]; done) | (rw [ex_1]; rfl) | (simp only [ex_1]; done)), trivial⟩, hS.F ht⟩) hS.2.2 dX5_passing_10


def fX_round (g : Nat → Int32) : Int32 := (((g 3) * (g 7)) * 1000)
set_option maxHeartbeats 4000000 in
set_option maxRecDepth 100000 in
theorem y_roundDrive (l : Launch) (D : va_G) (k : Nat → ClassId) (st : Nat → Nat) (lo : Nat) (h0 : Nat) (h1 : Nat) (h2 : Nat) (h3 : Nat) (h4 : Nat) (n : Nat) (see : Nat) (tm : Nat) (g : Nat → Int32)  : CRi l D k st lo yX5_roundDrive cX5_roundDrive 1 (some .int) ({ frames := 0, cells := 0, slots := 0, locals := 0 }) [.ref h0] [(h0, .inr (5, (fX5 h1 h2 h3 h4))), (aI k h1 10 (vv n see tm g))] (fun r => r = fX_round g) := by
  intro sz
  refine Met.ofW (cc := cX5_roundDrive) (maxL := 1) (ret := (some .int)) (by decide) rfl ?_
  intro p e s m args below meth c s₁ B hml hv
  obtain ⟨rfl, hsz, hlo, hP, hK, hDL, hZ⟩ := hv
  have hx := B.exec
  have hb := B.bytes
  have hr := B.returns
  have hts := WS_ts B.pre
  have hown : s.vm.findClass RX5 = some m.cls := findClass_of_methodNamed B.named
  have hlocks := B.notSynchronized
  subst hsz
  have hA : ∀ q : Nat, s.heap.size ≤ q → (fun q : Nat => s.heap.size ≤ q) q := fun _ h => h
  have hAlo : ∀ q : Nat, (fun q : Nat => s.heap.size ≤ q) q → lo ≤ q := fun q h => Nat.le_trans hlo h
  have hS : va_S (fun q : Nat => s.heap.size ≤ q) s.heap s.heap [] := va_S.rf
  have hl := lv_entry ([.ref h0]) (n := 1) (Nat.le_of_ble_eq_true rfl)
  rw [lg_entry_eq]
  generalize (lg_sl ([.ref h0]) ++ List.replicate (1 - (lg_sl ([.ref h0])).length) Slot.unset).toArray = ls at hl ⊢
  have hl : lv_has ls 1 [(0, .ref h0)] := hl
  refine lv_aload_n hx hb dX5_roundDrive_0 rfl (lv_at hl 0 rfl) ?_
  refine va_get (D := D) (ci := 5) (v := .ref h1) (C := RX5) (T := TX5) (N := 4) hx hb hts inX5 hown hK hP 0 rfl rfl 0 (by decide) (hts _ tw_146) (fun _ h9 => h9) rfl dX5_roundDrive_1 ?_
  refine lv_iconst (v := 3) hx hb dX5_roundDrive_4 (by decide) ?_
  refine va_iald hx hb hK hP 1 1 rfl rfl (by unfold vp_in; decide) dX5_roundDrive_5 ?_
  refine lv_ti (y := (g 3)) (by rfl) ?_
  refine lv_aload_n hx hb dX5_roundDrive_6 rfl (lv_at hl 0 rfl) ?_
  refine va_get (D := D) (ci := 5) (v := .ref h1) (C := RX5) (T := TX5) (N := 4) hx hb hts inX5 hown hK hP 0 rfl rfl 0 (by decide) (hts _ tw_146) (fun _ h9 => h9) rfl dX5_roundDrive_7 ?_
  refine lv_bipush (v := 7) hx hb dX5_roundDrive_10 (by decide) ?_
  refine va_iald hx hb hK hP 1 1 rfl rfl (by unfold vp_in; decide) dX5_roundDrive_12 ?_
  refine lv_ti (y := (g 7)) (by rfl) ?_
  refine lv_imul hx hb dX5_roundDrive_13 ?_
  refine lv_topi (fun x_1 ex_1 => ?_)
  refine lv_sipush (v := 1000) hx hb dX5_roundDrive_14 (by decide) ?_
  refine lv_imul hx hb dX5_roundDrive_17 ?_
  refine lv_topi (fun x_2 ex_2 => ?_)
  exact W.iret (v := x_2) hx hb hr (fun t ht hW => ⟨⟨x_2, (), rfl, (by show _ = fX_round g; unfold fX_round; first | (rw [ex_2, ex_1]; done) | (rw [ex_2, ex_1]; rfl) | (simp only [ex_2, ex_1]; done)), trivial⟩, hS.F ht⟩) hS.2.2 dX5_roundDrive_18


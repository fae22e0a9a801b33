theorem f_glueJ : True := trivial
section JOIN
variable {p : Program} {l : Launch} {e : Env} {R : Room} {s : State} {m : MethodId} {args : Array Value} {below : List Frame} {meth : Method} {c : Code} {cells slots : Nat} {Q : State → Prop} {H0 : Heap} {locs0 : List Loc} {g0 : JFrame}
/-- both arms of a branch come to one place -/
theorem W_join {σ : Type} (J : σ → Heap → List Loc → Array Slot → Prop) (stk : σ → List Value) (pj : Nat)
    (k : ∀ (x : σ) (H : Heap) (locs : List Loc) (ls : Array Slot), J x H locs ls → W p l e R s m args below meth c H locs cells slots Q (F0 m pj ls (stk x)))
    (g : (∀ (x : σ) (H : Heap) (locs : List Loc) (ls : Array Slot), J x H locs ls → W p l e R s m args below meth c H locs cells slots Q (F0 m pj ls (stk x))) → W p l e R s m args below meth c H0 locs0 cells slots Q g0) : W p l e R s m args below meth c H0 locs0 cells slots Q g0 := g k
theorem W_join2 {σ τ : Type} (J : σ → τ → Heap → List Loc → Array Slot → Prop) (stk : σ → τ → List Value) (pj : Nat)
    (k : ∀ (x : σ) (y : τ) (H : Heap) (locs : List Loc) (ls : Array Slot), J x y H locs ls → W p l e R s m args below meth c H locs cells slots Q (F0 m pj ls (stk x y)))
    (g : (∀ (x : σ) (y : τ) (H : Heap) (locs : List Loc) (ls : Array Slot), J x y H locs ls → W p l e R s m args below meth c H locs cells slots Q (F0 m pj ls (stk x y))) → W p l e R s m args below meth c H0 locs0 cells slots Q g0) : W p l e R s m args below meth c H0 locs0 cells slots Q g0 := g k
theorem W_join0 (J : Heap → List Loc → Array Slot → Prop) (stk : List Value) (pj : Nat)
    (k : ∀ (H : Heap) (locs : List Loc) (ls : Array Slot), J H locs ls → W p l e R s m args below meth c H locs cells slots Q (F0 m pj ls stk))
    (g : (∀ (H : Heap) (locs : List Loc) (ls : Array Slot), J H locs ls → W p l e R s m args below meth c H locs cells slots Q (F0 m pj ls stk)) → W p l e R s m args below meth c H0 locs0 cells slots Q g0) : W p l e R s m args below meth c H0 locs0 cells slots Q g0 := g k
end JOIN


def fX_arrival (n : Nat) (g : Nat → Int32) (rn : Nat) : Int32 := (((nI rn) * ((nI n) + (g 7))) + (nI n))
set_option maxHeartbeats 4000000 in
set_option maxRecDepth 100000 in
theorem y_arrivalOf (l : Launch) (D : va_G) (k : Nat → ClassId) (st : Nat → Nat) (lo : Nat) (h0 : Nat) (h1 : Nat) (h2 : Nat) (h3 : Nat) (h4 : Nat) (n : Nat) (see : Nat) (tm : Nat) (g : Nat → Int32) (rn : Nat)  : CRi l D k st lo yX5_arrivalOf cX5_arrivalOf 2 (some .int) ({ frames := 0, cells := 0, slots := 0, locals := 0 }) [.ref h0, .int (nI rn)] [(h0, .inr (5, (fX5 h1 h2 h3 h4))), (aI k h1 10 (vv n see tm g))] (fun r => r = fX_arrival n g rn) := by
  intro sz
  refine Met.ofW (cc := cX5_arrivalOf) (maxL := 2) (ret := (some .int)) (by decide) rfl ?_
  intro p e s m args below meth c s₁ B hml hv
  obtain ⟨rfl, hsz, hlo, hP, hK, hDL, hZ⟩ := hv
  have hx := B.exec
  have hb := B.bytes
  have hr := B.returns
  have hts := WS_ts B.pre
  have hown : s.vm.findClass RX5 = some m.cls := findClass_of_methodNamed B.named
  have hlocks := B.notSynchronized
  subst hsz
  have hA : ∀ q : Nat, s.heap.size ≤ q → (fun q : Nat => s.heap.size ≤ q) q := fun _ h => h
  have hAlo : ∀ q : Nat, (fun q : Nat => s.heap.size ≤ q) q → lo ≤ q := fun q h => Nat.le_trans hlo h
  have hS : va_S (fun q : Nat => s.heap.size ≤ q) s.heap s.heap [] := va_S.rf
  have hl := lv_entry ([.ref h0, .int (nI rn)]) (n := 2) (Nat.le_of_ble_eq_true rfl)
  rw [lg_entry_eq]
  generalize (lg_sl ([.ref h0, .int (nI rn)]) ++ List.replicate (2 - (lg_sl ([.ref h0, .int (nI rn)])).length) Slot.unset).toArray = ls at hl ⊢
  have hl : lv_has ls 2 [(0, .ref h0), (1, .int (nI rn))] := hl
  refine lv_iload_n hx hb dX5_arrivalOf_0 rfl (lv_at hl 1 rfl) ?_
  refine lv_aload_n hx hb dX5_arrivalOf_1 rfl (lv_at hl 0 rfl) ?_
  refine va_get (D := D) (ci := 5) (v := .ref h1) (C := RX5) (T := TX5) (N := 4) hx hb hts inX5 hown hK hP 0 rfl rfl 0 (by decide) (hts _ tw_146) (fun _ h9 => h9) rfl dX5_arrivalOf_2 ?_
  refine lv_iconst (v := 0) hx hb dX5_arrivalOf_5 (by decide) ?_
  refine va_iald hx hb hK hP 1 1 rfl rfl (by unfold vp_in; decide) dX5_arrivalOf_6 ?_
  refine lv_ti (y := (nI n)) (by rfl) ?_
  refine lv_aload_n hx hb dX5_arrivalOf_7 rfl (lv_at hl 0 rfl) ?_
  refine va_get (D := D) (ci := 5) (v := .ref h1) (C := RX5) (T := TX5) (N := 4) hx hb hts inX5 hown hK hP 0 rfl rfl 0 (by decide) (hts _ tw_146) (fun _ h9 => h9) rfl dX5_arrivalOf_8 ?_
  refine lv_bipush (v := 7) hx hb dX5_arrivalOf_11 (by decide) ?_
  refine va_iald hx hb hK hP 1 1 rfl rfl (by unfold vp_in; decide) dX5_arrivalOf_13 ?_
  refine lv_ti (y := (g 7)) (by rfl) ?_
  refine lv_iadd hx hb dX5_arrivalOf_14 ?_
  refine lv_topi (fun x_1 ex_1 => ?_)
  refine lv_imul hx hb dX5_arrivalOf_15 ?_
  refine lv_topi (fun x_2 ex_2 => ?_)
  refine lv_aload_n hx hb dX5_arrivalOf_16 rfl (lv_at hl 0 rfl) ?_
  refine va_get (D := D) (ci := 5) (v := .ref h1) (C := RX5) (T := TX5) (N := 4) hx hb hts inX5 hown hK hP 0 rfl rfl 0 (by decide) (hts _ tw_146) (fun _ h9 => h9) rfl dX5_arrivalOf_17 ?_
  refine lv_iconst (v := 0) hx hb dX5_arrivalOf_20 (by decide) ?_
  refine va_iald hx hb hK hP 1 1 rfl rfl (by unfold vp_in; decide) dX5_arrivalOf_21 ?_
  refine lv_ti (y := (nI n)) (by rfl) ?_
  refine lv_iadd hx hb dX5_arrivalOf_22 ?_
  refine lv_topi (fun x_3 ex_3 => ?_)
  exact W.iret (v := x_3) hx hb hr (fun t ht hW => ⟨⟨x_3, (), rfl, (by show _ = fX_arrival n g rn; unfold fX_arrival; first | (rw [ex_3, ex_2, ex_1]; done) | (rw [ex_3, ex_2, ex_1]; rfl) | (simp only [ex_3, ex_2, ex_1]; done)), trivial⟩, hS.F ht⟩) hS.2.2 dX5_arrivalOf_23


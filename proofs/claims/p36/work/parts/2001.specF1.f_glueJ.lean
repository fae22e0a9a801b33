theorem f_glueJ : True := trivial
section JOIN
variable {p : Program} {l : Launch} {e : Env} {R : Room} {s : State} {m : MethodId} {args : Array Value} {below : List Frame} {meth : Method} {c : Code} {cells slots : Nat} {Q : State → Prop} {H0 : Heap} {locs0 : List Loc} {g0 : JFrame}
/-- both arms of a branch come to one place -/
theorem W_join {σ : Type} (J : σ → Heap → List Loc → Array Slot → Prop) (stk : σ → List Value) (pj : Nat)
    (k : ∀ (x : σ) (H : Heap) (locs : List Loc) (ls : Array Slot), J x H locs ls → W p l e R s m args below meth c H locs cells slots Q (F0 m pj ls (stk x)))
    (g : (∀ (x : σ) (H : Heap) (locs : List Loc) (ls : Array Slot), J x H locs ls → W p l e R s m args below meth c H locs cells slots Q (F0 m pj ls (stk x))) → W p l e R s m args below meth c H0 locs0 cells slots Q g0) : W p l e R s m args below meth c H0 locs0 cells slots Q g0 := g k
theorem W_join2 {σ τ : Type} (J : σ → τ → Heap → List Loc → Array Slot → Prop) (stk : σ → τ → List Value) (pj : Nat)
    (k : ∀ (x : σ) (y : τ) (H : Heap) (locs : List Loc) (ls : Array Slot), J x y H locs ls → W p l e R s m args below meth c H locs cells slots Q (F0 m pj ls (stk x y)))
    (g : (∀ (x : σ) (y : τ) (H : Heap) (locs : List Loc) (ls : Array Slot), J x y H locs ls → W p l e R s m args below meth c H locs cells slots Q (F0 m pj ls (stk x y))) → W p l e R s m args below meth c H0 locs0 cells slots Q g0) : W p l e R s m args below meth c H0 locs0 cells slots Q g0 := g k
theorem W_join0 (J : Heap → List Loc → Array Slot → Prop) (stk : List Value) (pj : Nat)
    (k : ∀ (H : Heap) (locs : List Loc) (ls : Array Slot), J H locs ls → W p l e R s m args below meth c H locs cells slots Q (F0 m pj ls stk))
    (g : (∀ (H : Heap) (locs : List Loc) (ls : Array Slot), J H locs ls → W p l e R s m args below meth c H locs cells slots Q (F0 m pj ls stk)) → W p l e R s m args below meth c H0 locs0 cells slots Q g0) : W p l e R s m args below meth c H0 locs0 cells slots Q g0 := g k
end JOIN


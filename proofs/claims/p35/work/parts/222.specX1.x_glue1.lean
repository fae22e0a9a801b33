theorem x_glue1 : True := trivial
/-- a contract of a method that changes nothing and answers a string of the class -/
def CRr (l : Launch) (D : va_G) (k : Nat → ClassId) (st : Nat → Nat) (lo : Nat) (y : MethodName) (cc : ByteArray) (n : Nat) (ret : Option FieldType) (rm : Room) (av : List Value) (ws : va_W) (ra : Nat) : Prop :=
  ∀ sz, Met l y (WS y cc n ret) rm (va_Pc av (Wd D k st lo sz ws)) (va_Qr (fun (_ : Unit) => True) (fun _ q _ => q = ra) (fun q => sz ≤ q)) 0 0 (fun q => sz ≤ q)
section XGL
variable {p : Program} {l : Launch} {e : Env} {R : Room} {s : State} {m : MethodId} {args : Array Value} {below : List Frame} {meth : Method} {c : Code} {H : Heap} {locs : List Loc} {cells slots : Nat} {Q : State → Prop} {pc : Nat} {ls : Array Slot} {rest st0 : List Value}
theorem ro_r {D : va_G} {cl : List vw_C} {ws : va_W} {A0 : Nat → Prop} {H0 : Heap} {a : Array Value} {ra : Nat} (hr : va_Run p l e R s m args below meth c H locs cells slots 0 0 (F0 m pc ls st0) rest (va_Qr (fun (_ : Unit) => True) (fun _ q _ => q = ra) (fun q => H.size ≤ q) a) (fun q => H.size ≤ q)) (hS : va_S A0 H0 H locs) (hA : ∀ q, H0.size ≤ q → A0 q) (hP : va_P D cl ws H)
    (kk : ∀ (H1 : Heap) (locs1 : List Loc), va_P D cl ws H1 → va_S A0 H0 H1 locs1 → W p l e R s m args below meth c H1 locs1 cells slots Q (F0 m (pc + 3) ls (.ref ra :: rest))) : W p l e R s m args below meth c H locs cells slots Q (F0 m pc ls st0) := by
  refine va_callr hr hS (fun q h1 h2 => absurd h2 (Nat.not_le.mpr h1)) (fun q h => hA q (Nat.le_trans hS.1 h)) (fun u r t H1 locs1 ht hvm hw hB hz1 hk1 hS1 => ?_)
  rw [hB]
  exact kk H1 locs1 (hP.kept (fun k q hq => hk1 q.1 ((hP k q hq).lt) (Nat.not_le.mpr ((hP k q hq).lt)))) hS1
end XGL
theorem sLen_le : ∀ i, i < 14 → sLen.getD i 0 ≤ 16 := by decide
theorem shr0 (x : Int32) : x >>> ((0 : Int32) &&& 31) = x := by
  have h : (0 : Int32) &&& 31 = 0 := by decide
  rw [h]
  exact Int32.shiftRight_zero
theorem and255 (x : Int32) : ∃ c : Nat, c < 256 ∧ x &&& 255 = nI c := ⟨x.toBitVec.toNat % 2 ^ 8, Nat.mod_lt _ (by decide), pk_and x 8 (by decide)⟩
/-- a street's values: doors, how far one sees, times round -/
def vv (n see tm : Nat) (g : Nat → Int32) : Nat → Int32 := fun j => if j = 0 then nI n else if j = 6 then nI see else if j = 8 then nI tm else g j
theorem vv_upd (n e t : Nat) (g : Nat → Int32) (i : Nat) (x : Int32) (h0 : i ≠ 0) (h6 : i ≠ 6) (h8 : i ≠ 8) : upd (vv n e t g) i x = vv n e t (upd g i x) := by
  funext j
  unfold upd vv
  by_cases h : j = i
  · subst h
    simp [h0, h6, h8]
  · simp [h]
theorem vv_upd0 (n e t : Nat) (g : Nat → Int32) (a : Nat) : upd (vv n e t g) 0 (nI a) = vv a e t g := by
  funext j
  unfold upd vv
  by_cases h : j = 0 <;> simp [h]
theorem vv_upd6 (n e t : Nat) (g : Nat → Int32) (a : Nat) : upd (vv n e t g) 6 (nI a) = vv n a t g := by
  funext j
  unfold upd vv
  by_cases h : j = 6
  · subst h; simp
  · simp [h]
theorem vv_upd8 (n e t : Nat) (g : Nat → Int32) (a : Nat) : upd (vv n e t g) 8 (nI a) = vv n e a g := by
  funext j
  unfold upd vv
  by_cases h : j = 8
  · subst h; simp
  · simp [h]
theorem vv_cpy (n e t : Nat) (g : Nat → Int32) (n2 e2 t2 : Nat) (g2 : Nat → Int32) : va_cpy (vv n e t g) (vv n2 e2 t2 g2) 0 0 10 = vv n e t (va_cpy g g2 0 0 10) := by
  funext j
  unfold va_cpy vv
  by_cases h : j < 10
  · simp [h]
  · have h0 : j ≠ 0 := by omega
    have h6 : j ≠ 6 := by omega
    have h8 : j ≠ 8 := by omega
    simp [h, h0, h6, h8]
theorem vv_NT : zNT = vv 0 1 0 zNT := by
  funext j
  unfold vv
  by_cases h0 : j = 0
  · subst h0; rfl
  · by_cases h6 : j = 6
    · subst h6; rfl
    · by_cases h8 : j = 8
      · subst h8; rfl
      · simp [h0, h6, h8]
theorem vv_cpN (n2 e2 t2 : Nat) (g2 : Nat → Int32) : va_cpy zNT (vv n2 e2 t2 g2) 0 0 10 = vv 0 1 0 (va_cpy zNT g2 0 0 10) := by
  have h := vv_cpy 0 1 0 zNT n2 e2 t2 g2
  rw [← vv_NT] at h
  exact h
theorem nF_cpy {f g : Nat → Nat} (hf : ∀ j, f j ≤ 24) (hg : ∀ j, g j ≤ 24) : ∃ d : Nat → Nat, va_cpy (nF f) (nF g) 0 0 4 = nF d ∧ ∀ j, d j ≤ 24 := by
  refine ⟨fun j => if j < 4 then f j else g j, ?_, ?_⟩
  · funext j
    unfold va_cpy nF
    by_cases h : j < 4 <;> simp [h]
  · intro j
    show (if j < 4 then f j else g j) ≤ 24
    split
    · exact hf j
    · exact hg j
theorem xspl3 {x : Int32} (h0 : ¬ x < 0) (h1 : ¬ 3 ≤ x) : x = 0 ∨ x = 1 ∨ x = 2 := by
  obtain ⟨j, hj, rfl⟩ := nI_of h0
  have h2 : ¬ 3 ≤ j := fun h => h1 ((nI_leI (a := 3) (b := j) (by omega) hj).mpr h)
  rcases (show j = 0 ∨ j = 1 ∨ j = 2 by omega) with rfl | rfl | rfl
  · exact .inl rfl
  · exact .inr (.inl rfl)
  · exact .inr (.inr rfl)
theorem mk8 {q : Nat} (hq : q ≤ 3) (x : Int32) : ∃ z : Nat, z < 8 ∧ x &&& (nI (2 ^ q) - 1) = nI z := by
  have h : ∀ q, q ≤ 3 → (nI (2 ^ q) - 1 : Int32).toBitVec.toNat = 2 ^ q - 1 := by decide
  refine ⟨x.toBitVec.toNat % 2 ^ q, ?_, pk_and x q (h q hq)⟩
  have h1 := (pw8 hq)
  have h2 : x.toBitVec.toNat % 2 ^ q < 2 ^ q := Nat.mod_lt _ (by omega)
  omega
theorem i2c_nI {z : Nat} (h : z < 256) : ((nI z).toUInt32 % 65536).toInt32 = nI z := by
  have k : ∀ z, z < 256 → ((nI z).toUInt32 % 65536).toInt32 = nI z := by decide +kernel
  exact k z h
theorem nar_ch {z : Nat} (h : z < 256) : narrow .char (.int (nI z)) = .int (nI z) := by
  have k : ∀ z, z < 256 → narrow .char (.int (nI z)) = .int (nI z) := by decide +kernel
  exact k z h
theorem mminN {a b : Nat} (ha : a < 2 ^ 31) (hb : b < 2 ^ 31) : (if nI b < nI a then nI b else nI a) = nI (min a b) := by
  by_cases h : b < a
  · rw [if_pos ((nI_ltI hb ha).mpr h), Nat.min_eq_right (by omega)]
  · rw [if_neg (fun q => h ((nI_ltI hb ha).mp q)), Nat.min_eq_left (by omega)]
theorem mmaxN {a b : Nat} (ha : a < 2 ^ 31) (hb : b < 2 ^ 31) : (if nI a < nI b then nI b else nI a) = nI (max a b) := by
  by_cases h : a < b
  · rw [if_pos ((nI_ltI ha hb).mpr h), Nat.max_eq_right (by omega)]
  · rw [if_neg (fun q => h ((nI_ltI ha hb).mp q)), Nat.max_eq_left (by omega)]
theorem pw16 {k : Nat} (h : k ≤ 4) : 1 ≤ 2 ^ k ∧ 2 ^ k ≤ 16 := by
  rcases (show k = 0 ∨ k = 1 ∨ k = 2 ∨ k = 3 ∨ k = 4 by omega) with rfl | rfl | rfl | rfl | rfl <;> decide


/-! one list of words for all methods; contracts; calls -/
def LW : List Cond := lw_tbl.filter goodWord
def WS (y : MethodName) (cc : ByteArray) (n : Nat) (ret : Option FieldType) : List Cond := Cond.code y cc n ret :: LW
theorem LWm {w : Cond} {i : Nat} (h : lw_tbl[i]? = some w) (hg : goodWord w = true) : w ∈ LW := List.mem_filter.mpr ⟨List.mem_of_getElem? h, hg⟩
theorem LW_all {ws : List Cond} (h : GoodIn lw_tbl ws) : ∀ w ∈ ws, w ∈ LW := by
  intro w hw
  obtain ⟨h1, h2⟩ := h w hw
  refine List.mem_filter.mpr ⟨h1, ?_⟩
  rcases h2 with h2 | ⟨ty, rfl⟩
  · cases w <;> first | rfl | exact h2
  · rfl
theorem LW_lw {args : Array Value} {s : State} (h : ∀ w ∈ lw_tbl, w.before args s = true) : ∀ w ∈ LW, w.before args s = true := fun w hw => h w (List.mem_filter.mp hw).1
theorem WS_ts {y : MethodName} {cc : ByteArray} {n : Nat} {ret : Option FieldType} {args : Array Value} {s : State} (h : (allAtoms (WS y cc n ret)).before args s = true) : ∀ w ∈ LW, w.before args s = true := fun w hw => atoms_spec h w (List.mem_cons_of_mem _ hw)
theorem gLW {y : MethodName} {cc : ByteArray} {n : Nat} {ret : Option FieldType} (hc : Cond.code y cc n ret ∈ LW) : GoodIn LW (WS y cc n ret) := by
  have h0 : ∀ w ∈ LW, w ∈ LW ∧ ((w.onTables && w.keeps) = true ∨ ∃ ty, w = .arrayClass ty) := fun w hw => ⟨hw, good_of_word (List.mem_filter.mp hw).2⟩
  intro w hw
  rcases List.mem_cons.mp hw with rfl | hw
  · exact h0 _ hc
  · exact h0 w hw
theorem gLWl {ws : List Cond} (h : ∀ w ∈ ws, w ∈ LW) : GoodIn LW ws := fun w hw => ⟨h w hw, good_of_word (List.mem_filter.mp (h w hw)).2⟩
theorem gV {own C : String} {idx : Nat} {y : MethodName} {cc : ByteArray} {n : Nat} {ret : Option FieldType} (h1 : Cond.methodLink own idx y ∈ LW) (h2 : Cond.instanceMethod y ∈ LW) (h3 : Cond.selects C y y ∈ LW) (h4 : Cond.initialized C ∈ LW) (h5 : Cond.code y cc n ret ∈ LW) : GoodIn LW (wsV own idx C y (WS y cc n ret)) := by
  intro w hw
  unfold wsV at hw
  rcases List.mem_append.mp hw with hw | hw
  · refine gLWl (ws := [Cond.methodLink own idx y, Cond.instanceMethod y, Cond.selects C y y, Cond.initialized C]) ?_ w hw
    intro v hv
    simp only [List.mem_cons, List.not_mem_nil, or_false] at hv
    rcases hv with rfl | rfl | rfl | rfl <;> assumption
  · exact gLW h5 w hw
theorem gS {own : String} {idx : Nat} {y : MethodName} {cc : ByteArray} {n : Nat} {ret : Option FieldType} (h1 : Cond.methodLink own idx y ∈ LW) (h2 : Cond.static y ∈ LW) (h4 : Cond.initialized y.cls ∈ LW) (h5 : Cond.code y cc n ret ∈ LW) : GoodIn LW (va_wsS own idx y (WS y cc n ret)) := by
  intro w hw
  unfold va_wsS at hw
  rcases List.mem_append.mp hw with hw | hw
  · refine gLWl (ws := [Cond.methodLink own idx y, Cond.static y, Cond.initialized y.cls]) ?_ w hw
    intro v hv
    simp only [List.mem_cons, List.not_mem_nil, or_false] at hv
    rcases hv with rfl | rfl | rfl <;> assumption
  · exact gLW h5 w hw
/-- the array classes, in a fixed order -/
def TY (k : Nat → ClassId) : List (ClassId × FieldType) := [(k 0, .byte), (k 1, .int), (k 2, .boolean), (k 3, .object "LastPlace$Street"), (k 4, .object "LastPlace$BestWay"), (k 5, .object "LastPlace$Rule"), (k 6, .object "LastPlace$Scene")]
def zNT (j : Nat) : Int32 := ([0, 0, 2, 1, 5, 30, 1, 10, 0, 200] : List Int32).getD j 0
def zMO (j : Nat) : Int32 := ([24, 50, 99, 99, 99, 200, 2, 60, 3, 999] : List Int32).getD j 0
def zLE (j : Nat) : Int32 := ([1, -50, 0, 0, 0, 0, 0, 0, 0, 0] : List Int32).getD j 0
def sLen : List Nat := [5, 5, 4, 5, 4, 7, 3, 5, 5, 6, 4, 5, 4, 4]
def sByt : List (List Int32) := [[100, 111, 111, 114, 115], [97, 108, 105, 107, 101], [119, 97, 108, 107], [100, 114, 105, 118, 101], [108, 97, 116, 101], [99, 117, 114, 116, 97, 105, 110], [115, 101, 101], [114, 111, 117, 110, 100], [116, 105, 109, 101, 115], [103, 97, 114, 97, 103, 101], [102, 114, 101, 101], [112, 114, 105, 99, 101], [102, 114, 111, 109], [115, 101, 101, 110]]
def strs : List (String × Nat × String × Nat) := [(RX5, 87, "doors", 0), (RX5, 88, "alike", 1), (RX5, 90, "walk", 2), (RX5, 92, "drive", 3), (RX5, 94, "late", 4), (RX5, 96, "curtain", 5), (RX5, 98, "see", 6), (RX5, 100, "round", 7), (RX5, 102, "times", 8), (RX5, 104, "garage", 9), (RX5, 118, "free", 10), (RX5, 124, "price", 11), (RX3, 28, "from", 12), (RX3, 43, "seen", 13), (RX3, 52, "round", 7)]
def nestM : List (String × Nat × MethodName × String) := [(RX7, 11, yX6_init, RX7), (RX7, 28, yX5_init, RX7), (RX7, 48, yX4_init, RX7), (RX7, 63, yX2_init, RX7), (RX7, 80, yX3_init, RX7), (RX0, 80, yX7_mixed, RX7), (RX2, 78, yX7_mixed, RX7)]
def nestF : List (String × Nat × String × String × String × String) := [(RX5, 40, "LastPlace", "NOT_TOLD", "[I", RX7), (RX5, 106, "LastPlace", "LEAST", "[I", RX7), (RX5, 109, "LastPlace", "MOST", "[I", RX7), (RX3, 54, "LastPlace", "MOST", "[I", RX7)]
def overs : List String := ["LastPlace$Street", "LastPlace$BestWay", "LastPlace$Rule", "LastPlace$Scene"]
/-- the links among nest mates, the rows of references -/
def Nws (U : State) : Prop := (∀ q ∈ nestM, va_Nw (.methodLinkNest q.1 q.2.1 q.2.2.1 q.2.2.2) U) ∧ (∀ q ∈ nestF, va_Nw (.fieldLinkNest q.1 q.2.1 q.2.2.1 q.2.2.2.1 q.2.2.2.2.1 q.2.2.2.2.2) U) ∧ ∀ C ∈ overs, va_AO C U
theorem Nws.warm {s U : State} (hW : s.WarmedH U.vm) (h : Nws s) : Nws U := ⟨fun q hq => (h.1 q hq).warmM hW, fun q hq => (h.2.1 q hq).warmF hW, fun C hC => (h.2.2 C hC).moved hW.alike⟩
theorem Nws.same {s U : State} (hv : U.vm = s.vm) (h : Nws s) : Nws U := ⟨fun q hq => (h.1 q hq).same rfl hv.symm, fun q hq => (h.2.1 q hq).same rfl hv.symm, fun C hC => (h.2.2 C hC).moved (by rw [hv]; exact Vm.Alike.refl s.vm)⟩
/-- statics and strings, apart from all that comes from lo on -/
def Zs (st : Nat → Nat) (lo : Nat) (U : State) (H : Heap) : Prop :=
  va_Z "LastPlace" "NOT_TOLD" "[I" (.ref (st 0)) (fun q => lo ≤ q) U H ∧ va_T .int (st 0) 10 (fun j => .int (zNT j)) (fun q => lo ≤ q) U H ∧
  va_Z "LastPlace" "MOST" "[I" (.ref (st 1)) (fun q => lo ≤ q) U H ∧ va_T .int (st 1) 10 (fun j => .int (zMO j)) (fun q => lo ≤ q) U H ∧
  va_Z "LastPlace" "LEAST" "[I" (.ref (st 2)) (fun q => lo ≤ q) U H ∧ va_T .int (st 2) 10 (fun j => .int (zLE j)) (fun q => lo ≤ q) U H ∧
  va_Z "java/lang/String" "COMPACT_STRINGS" "Z" (.int 1) (fun q => lo ≤ q) U H ∧
  va_Zq "jdk/internal/util/Preconditions" "SIOOBE_FORMATTER" "Ljava/util/function/BiFunction;" (fun q => lo ≤ q) U H ∧ Nws U ∧
  vk_S 14 sLen sByt (fun i => st (100 + i)) (fun i => st (200 + i)) (fun q => lo ≤ q) U H ∧ ∀ q ∈ strs, vk_R q.1 q.2.1 q.2.2.1 (st (100 + q.2.2.2)) U
theorem Zs.at {st : Nat → Nat} {lo : Nat} {s U : State} {A : Nat → Prop} {H : Heap} {locs : List Loc} (h : Zs st lo s s.heap) (hS : va_S A s.heap H locs) (hA : ∀ q, A q → lo ≤ q) (hU : U.heap = H) (hW : s.WarmedH U.vm) : Zs st lo U U.heap := by
  rw [hU]
  have hq : ∀ a : Nat, a < s.heap.size → ¬ (fun q => lo ≤ q) a → H[a]? = s.heap[a]? := fun a h1 h2 => hS.2.1 a h1 (fun h3 => h2 (hA a h3))
  obtain ⟨h1, h2, h3, h4, h5, h6, h7, h8, h9, h10, h11⟩ := h
  exact ⟨(h1.kept hq).moved hW.alike, (h2.kept hq).moved hW.alike, (h3.kept hq).moved hW.alike, (h4.kept hq).moved hW.alike, (h5.kept hq).moved hW.alike, (h6.kept hq).moved hW.alike, (h7.kept hq).moved hW.alike, (h8.kept hq).moved hW.alike, h9.warm hW, (h10.kept hq).moved hW.alike, fun q hq => (h11 q hq).warm hW⟩
theorem Zs.blind {st : Nat → Nat} {lo : Nat} {U V : State} (hv : V.vm = U.vm) (hh : V.heap = U.heap) (h : Zs st lo U U.heap) : Zs st lo V V.heap := by
  have hm : U.vm.Alike V.vm := by rw [hv]; exact Vm.Alike.refl U.vm
  rw [hh]
  obtain ⟨h1, h2, h3, h4, h5, h6, h7, h8, h9, h10, h11⟩ := h
  exact ⟨h1.moved hm, h2.moved hm, h3.moved hm, h4.moved hm, h5.moved hm, h6.moved hm, h7.moved hm, h8.moved hm, h9.same hv, h10.moved hm, fun q hq => (h11 q hq).same hv⟩
/-- the state at a method's entry: its cells, the tables, the statics -/
def Wd (D : va_G) (k : Nat → ClassId) (st : Nat → Nat) (lo sz : Nat) (ws : va_W) (U : State) : Prop :=
  U.heap.size = sz ∧ lo ≤ sz ∧ va_P D classes ws U.heap ∧ va_K D classes (TY k) U ∧ va_D (fun q => lo ≤ q) ws ∧ Zs st lo U U.heap
theorem Wd.blind {D : va_G} {k : Nat → ClassId} {st : Nat → Nat} {lo sz : Nat} {ws : va_W} {av : List Value} : FrameBlind (va_Pc av (Wd D k st lo sz ws)) := by
  intro a U g mk q
  obtain ⟨q0, q1, q2, q3, q4, q5, q6⟩ := q
  exact ⟨q0, q1, q2, q3, va_K.moved (u := U) (U := U.calling g mk a) (Vm.Alike.refl U.vm) q4, q5, Zs.blind (U := U) (V := U.calling g mk a) rfl rfl q6⟩
theorem Wd.pre {D : va_G} {k : Nat → ClassId} {st : Nat → Nat} {lo : Nat} {ws : va_W} {s : State} {H : Heap} {A : Nat → Prop} {locs : List Loc} {av : List Value} (hS : va_S A s.heap H locs) (hA : ∀ q, A q → lo ≤ q) (hlo : lo ≤ s.heap.size) (hP : va_P D classes ws H) (hK : va_K D classes (TY k) s) (hD : va_D (fun q => lo ≤ q) ws) (hZ : Zs st lo s s.heap) : ∀ U : State, U.heap = H → s.WarmedH U.vm → va_Pc av (Wd D k st lo H.size ws) av.toArray U :=
  fun U hU hW => ⟨rfl, by rw [hU], Nat.le_trans hlo hS.1, by rw [hU]; exact hP, va_K.moved hW.alike hK, hD, hZ.at hS hA hU hW⟩
theorem va_Dsub {A : Nat → Prop} {ws wc : va_W} (hD : va_D A ws) (is : List Nat) (hn : va_nd is = true) (hs : is.map (fun i => ws[i]?) = wc.map some) : va_D A wc := hD.sub is hn hs
theorem fm_of {ws wc : va_W} (is : List Nat) (hs : is.map (fun i => ws[i]?) = wc.map some) : is.filterMap (fun i => ws[i]?) = wc := by
  have h : (is.map (fun i => ws[i]?)).filterMap id = (wc.map some).filterMap id := by rw [hs]
  simpa [List.filterMap_map, Function.comp_def] using h
/-- a contract of a method that changes nothing: int, long -/
def CRi (l : Launch) (D : va_G) (k : Nat → ClassId) (st : Nat → Nat) (lo : Nat) (y : MethodName) (cc : ByteArray) (n : Nat) (ret : Option FieldType) (rm : Room) (av : List Value) (ws : va_W) (post : Int32 → Prop) : Prop :=
  ∀ sz, Met l y (WS y cc n ret) rm (va_Pc av (Wd D k st lo sz ws)) (va_Qi (fun r (_ : Unit) => post r) (fun _ _ => True) (fun q => sz ≤ q)) 0 0 (fun q => sz ≤ q)
def CRl (l : Launch) (D : va_G) (k : Nat → ClassId) (st : Nat → Nat) (lo : Nat) (y : MethodName) (cc : ByteArray) (n : Nat) (ret : Option FieldType) (rm : Room) (av : List Value) (ws : va_W) (post : Int64 → Prop) : Prop :=
  ∀ sz, Met l y (WS y cc n ret) rm (va_Pc av (Wd D k st lo sz ws)) (va_Ql (fun r (_ : Unit) => post r) (fun _ _ => True) (fun q => sz ≤ q)) 0 0 (fun q => sz ≤ q)
/-- a contract of a method that may change all its cells: int, void -/
def CWi (l : Launch) (D : va_G) (k : Nat → ClassId) (st : Nat → Nat) (lo : Nat) (y : MethodName) (cc : ByteArray) (n : Nat) (ret : Option FieldType) (rm : Room) (mc ms : Nat) (av : List Value) (ws : va_W) {S : Type} (post : Int32 → S → Prop) (w1 : S → va_W) : Prop :=
  ∀ sz, Met l y (WS y cc n ret) rm (va_Pc av (Wd D k st lo sz ws)) (va_Qi post (fun u t => va_P D classes (w1 u) t.heap ∧ va_D (va_A ws sz) (w1 u)) (va_A ws sz)) mc ms (va_A ws sz)
def CWv (l : Launch) (D : va_G) (k : Nat → ClassId) (st : Nat → Nat) (lo : Nat) (y : MethodName) (cc : ByteArray) (n : Nat) (ret : Option FieldType) (rm : Room) (mc ms : Nat) (av : List Value) (ws : va_W) {S : Type} (post : S → Prop) (w1 : S → va_W) : Prop :=
  ∀ sz, Met l y (WS y cc n ret) rm (va_Pc av (Wd D k st lo sz ws)) (va_Qv post (fun u t => va_P D classes (w1 u) t.heap ∧ va_D (va_A ws sz) (w1 u)) (va_A ws sz)) mc ms (va_A ws sz)
section GL
variable {p : Program} {l : Launch} {e : Env} {R : Room} {s : State} {m : MethodId} {args : Array Value} {below : List Frame} {meth : Method} {c : Code} {H : Heap} {locs : List Loc} {cells slots : Nat} {Q : State → Prop} {pc : Nat} {ls : Array Slot} {rest st0 : List Value}
/-- another name of the number on top -/
theorem lv_ti {x y : Int32} (h : x = y) (k : W p l e R s m args below meth c H locs cells slots Q (F0 m pc ls (.int y :: rest))) : W p l e R s m args below meth c H locs cells slots Q (F0 m pc ls (.int x :: rest)) := h ▸ k
theorem lv_tl {x y : Int64} (h : x = y) (k : W p l e R s m args below meth c H locs cells slots Q (F0 m pc ls (.long y :: rest))) : W p l e R s m args below meth c H locs cells slots Q (F0 m pc ls (.long x :: rest)) := h ▸ k
theorem lv_tr {x y : Value} (h : x = y) (k : W p l e R s m args below meth c H locs cells slots Q (F0 m pc ls (y :: rest))) : W p l e R s m args below meth c H locs cells slots Q (F0 m pc ls (x :: rest)) := h ▸ k
/-- behind a call that changed nothing -/
theorem ro_i {D : va_G} {cl : List vw_C} {ws : va_W} {A0 : Nat → Prop} {H0 : Heap} {a : Array Value} {post : Int32 → Prop} (hr : va_Run p l e R s m args below meth c H locs cells slots 0 0 (F0 m pc ls st0) rest (va_Qi (fun r (_ : Unit) => post r) (fun _ _ => True) (fun q => H.size ≤ q) a) (fun q => H.size ≤ q)) (hS : va_S A0 H0 H locs) (hA : ∀ q, H0.size ≤ q → A0 q) (hP : va_P D cl ws H)
    (kk : ∀ (r : Int32) (H1 : Heap) (locs1 : List Loc), post r → va_P D cl ws H1 → va_S A0 H0 H1 locs1 → W p l e R s m args below meth c H1 locs1 cells slots Q (F0 m (pc + 3) ls (.int r :: rest))) : W p l e R s m args below meth c H locs cells slots Q (F0 m pc ls st0) := by
  refine va_calli hr hS (fun q h1 h2 => absurd h2 (Nat.not_le.mpr h1)) (fun q h => hA q (Nat.le_trans hS.1 h)) (fun r u t H1 locs1 ht hvm hw hB hz1 hk1 hS1 => ?_)
  exact kk r H1 locs1 hw (hP.kept (fun k q hq => hk1 q.1 ((hP k q hq).lt) (Nat.not_le.mpr ((hP k q hq).lt)))) hS1
theorem ro_l {D : va_G} {cl : List vw_C} {ws : va_W} {A0 : Nat → Prop} {H0 : Heap} {a : Array Value} {post : Int64 → Prop} (hr : va_Run p l e R s m args below meth c H locs cells slots 0 0 (F0 m pc ls st0) rest (va_Ql (fun r (_ : Unit) => post r) (fun _ _ => True) (fun q => H.size ≤ q) a) (fun q => H.size ≤ q)) (hS : va_S A0 H0 H locs) (hA : ∀ q, H0.size ≤ q → A0 q) (hP : va_P D cl ws H)
    (kk : ∀ (r : Int64) (H1 : Heap) (locs1 : List Loc), post r → va_P D cl ws H1 → va_S A0 H0 H1 locs1 → W p l e R s m args below meth c H1 locs1 cells slots Q (F0 m (pc + 3) ls (.long r :: rest))) : W p l e R s m args below meth c H locs cells slots Q (F0 m pc ls st0) := by
  refine va_calll hr hS (fun q h1 h2 => absurd h2 (Nat.not_le.mpr h1)) (fun q h => hA q (Nat.le_trans hS.1 h)) (fun r u t H1 locs1 ht hvm hw hB hz1 hk1 hS1 => ?_)
  exact kk r H1 locs1 hw (hP.kept (fun k q hq => hk1 q.1 ((hP k q hq).lt) (Nat.not_le.mpr ((hP k q hq).lt)))) hS1
/-- behind a call that changed its cells wc to w1 u -/
theorem rw_i {D : va_G} {cl : List vw_C} {ws wc wr : va_W} {A0 : Nat → Prop} {H0 : Heap} {a : Array Value} {S : Type} {post : Int32 → S → Prop} {w1 : S → va_W} {mc ms : Nat} (hr : va_Run p l e R s m args below meth c H locs cells slots mc ms (F0 m pc ls st0) rest (va_Qi post (fun u t => va_P D cl (w1 u) t.heap ∧ va_D (va_A wc H.size) (w1 u)) (va_A wc H.size) a) (va_A wc H.size)) (hS : va_S A0 H0 H locs) (hA : ∀ q, H0.size ≤ q → A0 q) (hP : va_P D cl ws H) (hD : va_D A0 ws) (isC isR : List Nat) (hC : isC.map (fun i => ws[i]?) = wc.map some) (hR : isR.map (fun i => ws[i]?) = wr.map some) (hn : va_nd isR = true) (hdis : ∀ i ∈ isR, i ∉ isC)
    (kk : ∀ (r : Int32) (u : S) (H1 : Heap) (locs1 : List Loc), post r u → va_P D cl (wr ++ w1 u) H1 → va_D A0 (wr ++ w1 u) → va_S A0 H0 H1 locs1 → W p l e R s m args below meth c H1 locs1 (cells + mc) (slots + ms) Q (F0 m (pc + 3) ls (.int r :: rest))) : W p l e R s m args below meth c H locs cells slots Q (F0 m pc ls st0) := by
  have hF := va_free (wc := wc) hD hS hA isC hC
  refine va_calli hr hS (fun q _ h => hF q h) hF (fun r u t H1 locs1 ht hvm hw hB hz1 hk1 hS1 => ?_)
  obtain ⟨hP1, hD1⟩ := hB
  rw [ht] at hP1
  obtain ⟨hP2, hD2⟩ := va_join (wr := wr) (w1 := w1 u) hP hD isC isR hC hR hn hdis hk1 hF hP1 hD1
  exact kk r u H1 locs1 hw hP2 hD2 hS1
theorem rw_v {D : va_G} {cl : List vw_C} {ws wc wr : va_W} {A0 : Nat → Prop} {H0 : Heap} {a : Array Value} {S : Type} {post : S → Prop} {w1 : S → va_W} {mc ms : Nat} (hr : va_Run p l e R s m args below meth c H locs cells slots mc ms (F0 m pc ls st0) rest (va_Qv post (fun u t => va_P D cl (w1 u) t.heap ∧ va_D (va_A wc H.size) (w1 u)) (va_A wc H.size) a) (va_A wc H.size)) (hS : va_S A0 H0 H locs) (hA : ∀ q, H0.size ≤ q → A0 q) (hP : va_P D cl ws H) (hD : va_D A0 ws) (isC isR : List Nat) (hC : isC.map (fun i => ws[i]?) = wc.map some) (hR : isR.map (fun i => ws[i]?) = wr.map some) (hn : va_nd isR = true) (hdis : ∀ i ∈ isR, i ∉ isC)
    (kk : ∀ (u : S) (H1 : Heap) (locs1 : List Loc), post u → va_P D cl (wr ++ w1 u) H1 → va_D A0 (wr ++ w1 u) → va_S A0 H0 H1 locs1 → W p l e R s m args below meth c H1 locs1 (cells + mc) (slots + ms) Q (F0 m (pc + 3) ls (rest))) : W p l e R s m args below meth c H locs cells slots Q (F0 m pc ls st0) := by
  have hF := va_free (wc := wc) hD hS hA isC hC
  refine va_callv hr hS (fun q _ h => hF q h) hF (fun u t H1 locs1 ht hvm hw hB hz1 hk1 hS1 => ?_)
  obtain ⟨hP1, hD1⟩ := hB
  rw [ht] at hP1
  obtain ⟨hP2, hD2⟩ := va_join (wr := wr) (w1 := w1 u) hP hD isC isR hC hR hn hdis hk1 hF hP1 hD1
  exact kk u H1 locs1 hw hP2 hD2 hS1
/-- the receiver and the start of a call -/
theorem pV {D : va_G} {k : Nat → ClassId} {st : Nat → Nat} {lo : Nat} {ws wc : va_W} {A : Nat → Prop} {b q0 ci : Nat} {q : vw_C} {fs As : List Value} (hS : va_S A s.heap H locs) (hA : ∀ q, A q → lo ≤ q) (hlo : lo ≤ s.heap.size) (hP : va_P D classes ws H) (hK : va_K D classes (TY k) s) (hD : va_D (fun q => lo ≤ q) ws) (hZ : Zs st lo s s.heap) (is : List Nat) (hn : va_nd is = true) (hs : is.map (fun i => ws[i]?) = wc.map some) (hc : classes[ci]? = some q) (he : wc[q0]? = some (b, .inr (ci, fs))) : PreV s H q.1 b (va_Pc (.ref b :: As) (Wd D k st lo H.size wc)) As :=
  ⟨Wd.blind, va_recv hK (hP.sub is (fm_of is hs)) hc he, Wd.pre hS hA hlo (hP.sub is (fm_of is hs)) hK (va_Dsub hD is hn hs) hZ⟩
theorem pS {D : va_G} {k : Nat → ClassId} {st : Nat → Nat} {lo : Nat} {ws wc : va_W} {A : Nat → Prop} {As : List Value} (hS : va_S A s.heap H locs) (hA : ∀ q, A q → lo ≤ q) (hlo : lo ≤ s.heap.size) (hP : va_P D classes ws H) (hK : va_K D classes (TY k) s) (hD : va_D (fun q => lo ≤ q) ws) (hZ : Zs st lo s s.heap) (is : List Nat) (hn : va_nd is = true) (hs : is.map (fun i => ws[i]?) = wc.map some) : PreS s H (va_Pc As (Wd D k st lo H.size wc)) As :=
  ⟨Wd.blind, Wd.pre hS hA hlo (hP.sub is (fm_of is hs)) hK (va_Dsub hD is hn hs) hZ⟩
end GL
theorem A_lo {lo : Nat} {ws : va_W} {sz : Nat} (hD : va_D (fun q => lo ≤ q) ws) (hlo : lo ≤ sz) : ∀ q, va_A ws sz q → lo ≤ q := by
  rintro q (⟨j, e, h⟩ | h)
  · exact hD.2 j _ h
  · exact Nat.le_trans hlo h
theorem va_Dlo {lo : Nat} {A : Nat → Prop} {ws : va_W} (hD : va_D A ws) (h : ∀ q, A q → lo ≤ q) : va_D (fun q => lo ≤ q) ws := ⟨hD.1, fun k q hq => h _ (hD.2 k q hq)⟩
theorem RA_find {U : State} {cA : ClassId} {ty : FieldType} (h : va_RA U cA ty) : U.vm.findClass ("[" ++ ty.toString) = some cA := by
  cases ty <;> first | exact h | exact h.choose_spec.choose_spec.2.2.2
theorem cA_eq {D : va_G} {cl : List vw_C} {tys : List (ClassId × FieldType)} {s : State} {cA c1 : ClassId} {ty : FieldType} {t0 : Nat} (ht : tys[t0]? = some (c1, ty)) (hK : va_K D cl tys s) (hK' : va_K D cl (tys ++ [(cA, ty)]) s) : cA = c1 := by
  have h1 := RA_find (hK.2 t0 _ ht).2
  have h2 := RA_find (hK'.2 tys.length (cA, ty) (by simp)).2
  rw [h1] at h2
  exact (Option.some.inj h2).symm
section GL2
variable {p : Program} {l : Launch} {e : Env} {R : Room} {s : State} {m : MethodId} {args : Array Value} {below : List Frame} {meth : Method} {c : Code} {H H0 : Heap} {locs : List Loc} {cells slots : Nat} {Q : State → Prop} {pc : Nat} {ls : Array Slot} {rest st0 : List Value} {D : va_G} {cl : List vw_C} {tys : List (ClassId × FieldType)} {ws : va_W} {A : Nat → Prop} {cc : ByteArray}
theorem nwa (hexec : p.tables.exec = Jvm.exec) (hb : c.code = cc) {atype : ArrayType} {t0 : Nat} {cI : ClassId} (harr : (Cond.arrayClass (newarray.typeOf atype)).before args s = true) {ty : FieldType} (hty : newarray.typeOf atype = ty) (ht : tys[t0]? = some (cI, ty)) (hK : va_K D cl tys s) (hP : va_P D cl ws H) (hD : va_D A ws) (hS : va_S A H0 H locs) (hA : ∀ q, H0.size ≤ q → A q)
    {n : Int32} {N' : Nat} {a0 : vp_A} (ha : ∀ cA : ClassId, vp_cell cA a0 = arrV cA N' (fun _ => defaultValue ty)) (hn : ¬ n < 0) (hN : n.toNatClampNeg = N') (hbytes : N' * componentBytes ty ≤ 536870912) (hcells : cells + 1 ≤ R.cells) (hslots : slots + N' ≤ R.slots) (hdg : decode cc pc = .ok (.newarray atype, 2))
    (kk : ∀ (q : Nat) (H1 : Heap), va_P D cl (ws ++ [(q, .inl (cI, a0))]) H1 → va_D A (ws ++ [(q, .inl (cI, a0))]) → va_S A H0 H1 locs →
      W p l e R s m args below meth c H1 locs (cells + 1) (slots + N') Q (F0 m (pc + 2) ls (.ref q :: rest))) : W p l e R s m args below meth c H locs cells slots Q (F0 m pc ls (.int n :: rest)) := by
  refine va_newa hexec hb harr hty hK hP hD hS hA ha hn hN hbytes hcells hslots hdg (fun q cA H1 hK1 hP1 hD1 hS1 => ?_)
  obtain rfl := cA_eq ht hK hK1
  exact kk q H1 hP1 hD1 hS1
theorem nwq (hexec : p.tables.exec = Jvm.exec) (hb : c.code = cc) {own C : String} {index t0 : Nat} {cI : ClassId} (hown : s.vm.findClass own = some m.cls) (hclink : (Cond.classLink own index C).before args s = true) (hover : va_AO C s) (ht : tys[t0]? = some (cI, .object C)) (hK : va_K D cl tys s) (hP : va_P D cl ws H) (hD : va_D A ws) (hS : va_S A H0 H locs) (hA : ∀ q, H0.size ≤ q → A q)
    {n : Int32} {N' : Nat} (hn : ¬ n < 0) (hN : n.toNatClampNeg = N') (hbytes : N' * 4 ≤ 536870912) (hcells : cells + 1 ≤ R.cells) (hslots : slots + N' ≤ R.slots) (hdg : decode cc pc = .ok (.anewarray index, 3))
    (kk : ∀ (q : Nat) (H1 : Heap), va_P D cl (ws ++ [(q, .inl (cI, N', .inr (.inr (.inr (.inr (fun _ => none))))))]) H1 → va_D A (ws ++ [(q, .inl (cI, N', .inr (.inr (.inr (.inr (fun _ => none))))))]) → va_S A H0 H1 locs →
      W p l e R s m args below meth c H1 locs (cells + 1) (slots + N') Q (F0 m (pc + 3) ls (.ref q :: rest))) : W p l e R s m args below meth c H locs cells slots Q (F0 m pc ls (.int n :: rest)) := by
  refine va_newq hexec hb hown hclink hover hK hP hD hS hA hn hN hbytes hcells hslots hdg (fun q cA H1 hK1 hP1 hD1 hS1 => ?_)
  obtain rfl := cA_eq ht hK hK1
  exact kk q H1 hP1 hD1 hS1
end GL2
theorem sw5 (x : Int32) : x = 0 ∨ x = 1 ∨ x = 2 ∨ x = 3 ∨ x = 4 ∨ (x.toInt < 0 ∨ 4 < x.toInt) := by
  have h : ∀ y : Int32, x.toInt = y.toInt → x = y := fun y => Int32.toInt_inj.mp
  rcases Classical.em (x.toInt < 0 ∨ 4 < x.toInt) with hx | hx
  · exact .inr (.inr (.inr (.inr (.inr hx))))
  · rcases (show x.toInt = 0 ∨ x.toInt = 1 ∨ x.toInt = 2 ∨ x.toInt = 3 ∨ x.toInt = 4 by omega) with q | q | q | q | q
    · exact .inl (h 0 q)
    · exact .inr (.inl (h 1 q))
    · exact .inr (.inr (.inl (h 2 q)))
    · exact .inr (.inr (.inr (.inl (h 3 q))))
    · exact .inr (.inr (.inr (.inr (.inl (h 4 q)))))
theorem spl3 {x : Int32} (h0 : ¬ x < 0) (h1 : ¬ (3 : Int32) ≤ x) : x = 0 ∨ x = 1 ∨ x = 2 := by
  have h : ∀ y : Int32, x.toInt = y.toInt → x = y := fun y => Int32.toInt_inj.mp
  rw [Int32.lt_iff_toInt_lt] at h0
  rw [Int32.le_iff_toInt_le] at h1
  have e0 : (0 : Int32).toInt = 0 := by decide
  have e3 : (3 : Int32).toInt = 3 := by decide
  rw [e0] at h0
  rw [e3] at h1
  rcases (show x.toInt = 0 ∨ x.toInt = 1 ∨ x.toInt = 2 by omega) with q | q | q
  · exact .inl (h 0 q)
  · exact .inr (.inl (h 1 q))
  · exact .inr (.inr (h 2 q))
theorem i64_le {x y : Int32} : x.toInt64 ≤ y.toInt64 ↔ x ≤ y := by
  rw [Int64.le_iff_toInt_le, Int32.le_iff_toInt_le, Int32.toInt_toInt64, Int32.toInt_toInt64]
/-- three addresses in a row -/
def a3 (x y z : Nat) : Nat → Option Nat := fun i => match i with
  | 0 => some x
  | 1 => some y
  | 2 => some z
  | _ => none
theorem inL1 {x y : Int32} (h : ¬ lg_cmp x.toInt64 y.toInt64 < 0) : y ≤ x := i64_le.mp (Int64.not_lt.mp (fun q => h ((lg_cmp_lt _ _).mpr q)))
theorem inL2 {x y : Int32} (h : lg_cmp x.toInt64 y.toInt64 < 0) : ¬ y ≤ x := fun q => absurd ((lg_cmp_lt _ _).mp h) (Int64.not_lt.mpr (i64_le.mpr q))
theorem inL3 {x y : Int32} (h : ¬ 0 < lg_cmp x.toInt64 y.toInt64) : x ≤ y := i64_le.mp (Int64.not_lt.mp (fun q => h ((lg_cmp_gt _ _).mpr q)))
theorem inL4 {x y : Int32} (h : 0 < lg_cmp x.toInt64 y.toInt64) : ¬ x ≤ y := fun q => absurd ((lg_cmp_gt _ _).mp h) (Int64.not_lt.mpr (i64_le.mpr q))
/-- a number within bounds -/
def inB (v lo hi : Int32) : Prop := lo ≤ v ∧ v ≤ hi
def isB (r v lo hi : Int32) : Prop := (r = 1 ∧ inB v lo hi) ∨ (r = 0 ∧ ¬ inB v lo hi)
def a2 (x y : Nat) : Nat → Option Nat := fun i => match i with
  | 0 => some x
  | 1 => some y
  | _ => none
def a4 (x y z w : Nat) : Nat → Option Nat := fun i => match i with
  | 0 => some x
  | 1 => some y
  | 2 => some z
  | 3 => some w
  | _ => none
theorem up2 (x y : Nat) : va_up (va_up (fun _ => none) (Int32.toNatClampNeg 0) (some x)) (Int32.toNatClampNeg 1) (some y) = a2 x y := by
  funext i
  match i with
  | 0 => rfl
  | 1 => rfl
  | j + 2 => rfl
theorem up3 (x y z : Nat) : va_up (va_up (va_up (fun _ => none) (Int32.toNatClampNeg 0) (some x)) (Int32.toNatClampNeg 1) (some y)) (Int32.toNatClampNeg 2) (some z) = a3 x y z := by
  funext i
  match i with
  | 0 => rfl
  | 1 => rfl
  | 2 => rfl
  | j + 3 => rfl
theorem up4 (x y z w : Nat) : va_up (va_up (va_up (va_up (fun _ => none) (Int32.toNatClampNeg 0) (some x)) (Int32.toNatClampNeg 1) (some y)) (Int32.toNatClampNeg 2) (some z)) (Int32.toNatClampNeg 3) (some w) = a4 x y z w := by
  funext i
  match i with
  | 0 => rfl
  | 1 => rfl
  | 2 => rfl
  | 3 => rfl
  | j + 4 => rfl
theorem spl2 {x : Int32} (h : inB x 0 1) : x = 0 ∨ x = 1 := by
  have hh : ∀ y : Int32, x.toInt = y.toInt → x = y := fun y => Int32.toInt_inj.mp
  obtain ⟨h0, h1⟩ := h
  rw [Int32.le_iff_toInt_le] at h0 h1
  have e0 : (0 : Int32).toInt = 0 := by decide
  have e1 : (1 : Int32).toInt = 1 := by decide
  rw [e0] at h0
  rw [e1] at h1
  rcases (show x.toInt = 0 ∨ x.toInt = 1 by omega) with q | q
  · exact .inl (hh 0 q)
  · exact .inr (hh 1 q)
theorem spl8 {x : Int32} (h : inB x 1 8) : x = 1 ∨ x = 2 ∨ x = 3 ∨ x = 4 ∨ x = 5 ∨ x = 6 ∨ x = 7 ∨ x = 8 := by
  have hh : ∀ y : Int32, x.toInt = y.toInt → x = y := fun y => Int32.toInt_inj.mp
  obtain ⟨h0, h1⟩ := h
  rw [Int32.le_iff_toInt_le] at h0 h1
  have e0 : (1 : Int32).toInt = 1 := by decide
  have e1 : (8 : Int32).toInt = 8 := by decide
  rw [e0] at h0
  rw [e1] at h1
  rcases (show x.toInt = 1 ∨ x.toInt = 2 ∨ x.toInt = 3 ∨ x.toInt = 4 ∨ x.toInt = 5 ∨ x.toInt = 6 ∨ x.toInt = 7 ∨ x.toInt = 8 by omega) with q | q | q | q | q | q | q | q
  · exact .inl (hh 1 q)
  · exact .inr (.inl (hh 2 q))
  · exact .inr (.inr (.inl (hh 3 q)))
  · exact .inr (.inr (.inr (.inl (hh 4 q))))
  · exact .inr (.inr (.inr (.inr (.inl (hh 5 q)))))
  · exact .inr (.inr (.inr (.inr (.inr (.inl (hh 6 q))))))
  · exact .inr (.inr (.inr (.inr (.inr (.inr (.inl (hh 7 q)))))))
  · exact .inr (.inr (.inr (.inr (.inr (.inr (.inr (hh 8 q)))))))
theorem lt3 {x : Int32} : x < 3 ↔ x ≤ 2 := by
  rw [Int32.lt_iff_toInt_lt, Int32.le_iff_toInt_le]
  have e1 : (3 : Int32).toInt = 3 := by decide
  have e2 : (2 : Int32).toInt = 2 := by decide
  rw [e1, e2]
  omega
theorem vinB {x : Int32} {n : Nat} {h : Int32} (hb : inB x 0 h) (hn : h.toInt < n) : vp_in x n := by
  rw [vp_in_iff]
  obtain ⟨h0, h1⟩ := hb
  rw [Int32.le_iff_toInt_le] at h0 h1
  have e0 : (0 : Int32).toInt = 0 := by decide
  rw [e0] at h0
  omega
theorem sw_out {x : Int32} (h : x.toInt < 0 ∨ 4 < x.toInt) : ¬ inB x 0 4 := by
  rintro ⟨h0, h1⟩
  rw [Int32.le_iff_toInt_le] at h0 h1
  have e0 : (0 : Int32).toInt = 0 := by decide
  have e1 : (4 : Int32).toInt = 4 := by decide
  rw [e0] at h0
  rw [e1] at h1
  omega
section CPT
variable {p : Program} {l : Launch} {e : Env} {R : Room} {s : State} {m : MethodId} {args : Array Value} {below : List Frame} {meth : Method} {c : Code} {H : Heap} {locs : List Loc} {cells slots : Nat} {Q : State → Prop} {pc : Nat} {ls : Array Slot} {rest : List Value} {D : va_G} {cl : List vw_C} {tys : List (ClassId × FieldType)} {ws : va_W} {A : Nat → Prop} {cc : ByteArray}
/-- System.arraycopy out of a static table of ints into a cell of ours -/
theorem cpT (hexec : p.tables.exec = Jvm.exec) (hb : c.code = cc) (hml : c.maxLocals = ls.size) {own : String} {index a : Nat} (hown : s.vm.findClass own = some m.cls) (hlink : (Cond.methodLink own index arraycopyName).before args s = true) (hnat : (Cond.native arraycopyName).before args s = true) (hstat : (Cond.static arraycopyName).before args s = true) (hini : (Cond.initialized "java/lang/System").before args s = true)
    (hK : va_K D cl tys s) (hP : va_P D cl ws H) (hD : va_D A ws) (hS : va_S A s.heap H locs) {b0 n0 : Nat} {f : Nat → Int32} (hX : va_T .int b0 n0 (fun j => .int (f j)) A s s.heap) (q1 t1 : Nat) {c1 : ClassId} {n1 : Nat} {g : Nat → Int32} (ha1 : ws[q1]? = some (a, .inl (c1, n1, .inl g))) (ht1 : tys[t1]? = some (c1, .int))
    {sp dp n : Int32} (h1 : ¬ sp < 0) (h2 : ¬ dp < 0) (h3 : ¬ n < 0) (h4 : sp.toNatClampNeg + n.toNatClampNeg ≤ n0) (h5 : dp.toNatClampNeg + n.toNatClampNeg ≤ n1) (hframes : 1 ≤ R.frames) (hlocals : (rest.map fun v => v.category).sum + (nativeFrameWords "java/lang/System" "arraycopy" 5 + 11) ≤ R.locals) (hdg : decode cc pc = .ok (.invokestatic index, 3))
    (kk : ∀ (H1 : Heap) (locs1 : List Loc), va_P D cl (ws.set q1 (a, .inl (c1, n1, .inl (va_cpy f g sp.toNatClampNeg dp.toNatClampNeg n.toNatClampNeg)))) H1 → va_D A (ws.set q1 (a, .inl (c1, n1, .inl (va_cpy f g sp.toNatClampNeg dp.toNatClampNeg n.toNatClampNeg)))) → va_S A s.heap H1 locs1 → W p l e R s m args below meth c H1 locs1 cells slots Q (F0 m (pc + 3) ls rest)) : W p l e R s m args below meth c H locs cells slots Q (F0 m pc ls (.int n :: .int dp :: .ref a :: .int sp :: .ref b0 :: rest)) := by
  have nonneg : ∀ z : Int32, ¬ z < 0 → z.toInt = (z.toNatClampNeg : Int) := fun z hz => by
    have h := Int32.le_iff_toInt_le.mp (Int32.not_lt.mp hz)
    have e0 : (0 : Int32).toInt = 0 := by decide
    rw [e0] at h
    show z.toInt = ((z.toInt.toNat : Nat) : Int)
    omega
  obtain ⟨src, t1', t2, t3, t4, -, t5, t6⟩ := hX
  have hsrc : H[b0]? = some src := (hS.2.1 b0 (Array.getElem?_eq_some_iff.mp t1').1 t6).trans t1'
  have hdst : H[a]? = some (vp_cell c1 (n1, .inl g)) := hP q1 _ ha1
  have hlt : a < H.size := (Array.getElem?_eq_some_iff.mp hdst).1
  obtain ⟨t7, k0, hk0, cm0, hkk0⟩ := t2
  obtain ⟨-, k1, hk1, cm1, hkk1⟩ := (hK.2 t1 _ ht1).1 n1 (fun j => .int (g j))
  have hnew : copied src (vp_cell c1 (n1, .inl g)) sp dp n = vp_cell c1 (n1, .inl (va_cpy f g sp.toNatClampNeg dp.toNatClampNeg n.toNatClampNeg)) := va_copiedX (fun z => .int z) src c1 f g t5 h4
  intro T hT X
  obtain ⟨vm', X', step⟩ := X.arraycopy hexec hown hlink hnat hstat hini (src := b0) (dst := a) (cs := src) (cd := vp_cell c1 (n1, .inl g)) (srcPos := sp) (destPos := dp) (n := n) (by rw [hT]; exact hsrc) (by rw [hT]; exact hdst)
    t7 (fun _ h => by cases h) t3 (fun h => by cases h) hk0 hk1 hkk0 hkk1 (by simp [refKind]) h1 h2 h3
    (by rw [nonneg sp h1, nonneg n h3]; omega)
    (by rw [nonneg dp h2, nonneg n h3]; show ¬ _ > ((arrV c1 n1 (fun j => .int (g j))).slots.size : Int); rw [arrV_size]; omega)
    (fun vm₁ _ i hi => by
      have hval : src.slots.getD (sp.toNatClampNeg + i) .null = .int (f (sp.toNatClampNeg + i)) := by
        rw [Array.getD_eq_getD_getElem?, t5 _ (by omega)]
        rfl
      rw [hval]
      exact ⟨rfl, trivial⟩)
    (g := F0 m pc ls (.int n :: .int dp :: .ref a :: .int sp :: .ref b0 :: rest)) rfl (by rw [hml]) (rest := rest) rfl (by rw [hb]; exact hdg) hframes (by show 2 * 0 + _ + _ ≤ _; omega)
  rw [hnew] at X' step
  have hoth : ∀ q : Nat, q ≠ a → (H.setIfInBounds a (vp_cell c1 (n1, .inl (va_cpy f g sp.toNatClampNeg dp.toNatClampNeg n.toNatClampNeg))))[q]? = H[q]? := fun q hq => by simp [Array.getElem?_setIfInBounds, Ne.symm hq]
  have hat : (H.setIfInBounds a (vp_cell c1 (n1, .inl (va_cpy f g sp.toNatClampNeg dp.toNatClampNeg n.toNatClampNeg))))[a]? = some (vp_cell c1 (n1, .inl (va_cpy f g sp.toNatClampNeg dp.toNatClampNeg n.toNatClampNeg))) := by simp [Array.getElem?_setIfInBounds, hlt]
  have hAa : A a := hD.2 q1 _ ha1
  refine (fun ⟨t, g1, g2⟩ => ⟨t, step t g1, g2⟩) (kk _ _ (hP.set hD ha1 hat hoth) (hD.set ha1) ⟨by simp; exact hS.1, fun q g1 g2 => ?_, fun q hq => ?_⟩ _ (by rw [← hT]; rfl) X')
  · rw [hoth q (fun h => g2 (h ▸ hAa))]
    exact hS.2.1 q g1 g2
  · rcases List.mem_append.mp hq with h | h
    · exact hS.2.2 q h
    · obtain ⟨z, -, hz⟩ := List.mem_map.mp h
      rw [← hz]
      exact hAa
end CPT
/-- the string as receiver -/
theorem pVs {s : State} {H : Heap} {locs : List Loc} {D : va_G} {k : Nat → ClassId} {st : Nat → Nat} {lo : Nat} {ws wc : va_W} {A : Nat → Prop} {As : List Value} {i : Nat} (hi : i < 14) (hS : va_S A s.heap H locs) (hA : ∀ q, A q → lo ≤ q) (hlo : lo ≤ s.heap.size) (hP : va_P D classes ws H) (hK : va_K D classes (TY k) s) (hD : va_D (fun q => lo ≤ q) ws) (hZ : Zs st lo s s.heap) (is : List Nat) (hn : va_nd is = true) (hs : is.map (fun i => ws[i]?) = wc.map some) : PreV s H RJ0 (st (100 + i)) (va_Pc (.ref (st (100 + i)) :: As) (Wd D k st lo H.size wc)) As := by
  refine ⟨Wd.blind, ?_, Wd.pre hS hA hlo (hP.sub is (fm_of is hs)) hK (va_Dsub hD is hn hs) hZ⟩
  obtain ⟨cell, h1, h2, h3, h4⟩ := (hZ.2.2.2.2.2.2.2.2.2.1.1 i hi).1
  exact ⟨cell, by rw [hS.2.1 (st (100 + i)) (Array.getElem?_eq_some_iff.mp h1).1 (fun h => h4 (hA _ h))]; exact h1, h2, h3⟩
/-! loops, numbers -/
section LOOP
variable {p : Program} {l : Launch} {e : Env} {R : Room} {s : State} {m : MethodId} {args : Array Value} {below : List Frame} {meth : Method} {c : Code} {cells slots : Nat} {Q : State → Prop} {pc : Nat}
/-- a loop with a measure: from its head to the method's end -/
theorem W_loop {σ : Type} (I : Nat → σ → Heap → List Loc → Array Slot → Prop)
    (step : ∀ (n : Nat) (x : σ) (H : Heap) (locs : List Loc) (ls : Array Slot), I n x H locs ls → (∀ (n' : Nat) (x' : σ) (H' : Heap) (locs' : List Loc) (ls' : Array Slot), n' < n → I n' x' H' locs' ls' → W p l e R s m args below meth c H' locs' cells slots Q (F0 m pc ls' [])) → W p l e R s m args below meth c H locs cells slots Q (F0 m pc ls []))
    {H : Heap} {locs : List Loc} {ls : Array Slot} (n : Nat) (x : σ) (h : I n x H locs ls) : W p l e R s m args below meth c H locs cells slots Q (F0 m pc ls []) := by
  induction n using Nat.strongRecOn generalizing x H locs ls with
  | ind n ih => exact step n x H locs ls h (fun n' x' H' locs' ls' hn hI => ih n' hn x' hI)
end LOOP
theorem dn1 (x : Int32) : x + Int32.ofInt (-1) = x - 1 := by
  rw [Int32.sub_eq_add_neg]
  rfl
theorem dn0 : nI 0 - 1 = (-1 : Int32) := by decide
theorem nI_zero : nI 0 = (0 : Int32) := rfl
theorem nI_pos0 {n : Nat} (h : n < 2 ^ 31) : ¬ nI n < 0 := nI_pos h
theorem nI_ge0 {n : Nat} (h : n < 2 ^ 31) : (0 : Int32) ≤ nI n := nI_pos' h
theorem nI_nle' {x : Int32} {n : Nat} (h : n < 2 ^ 31) (hx : x < 0) : ¬ nI n ≤ x := by
  intro h2
  have h3 := Int32.le_iff_toInt_le.mp h2
  have h4 := Int32.lt_iff_toInt_lt.mp hx
  rw [nI_toInt h] at h3
  have e0 : (0 : Int32).toInt = 0 := by decide
  rw [e0] at h4
  omega
theorem nI_ne' {x : Int32} {n : Nat} (h : n < 2 ^ 31) (hx : x < 0) : ¬ nI n = x := fun h2 => nI_nle' h hx (by rw [h2]; exact Int32.le_refl x)
/-- contents of a row of small numbers -/
def nF (d : Nat → Nat) : Nat → Int32 := fun j => nI (d j)
theorem nF_upd (d : Nat → Nat) (i x : Nat) : upd (nF d) i (nI x) = nF (fun j => if j = i then x else d j) := by
  funext j
  unfold upd nF
  by_cases h : j = i
  · simp [h]
  · simp [h]
theorem pd_mk {D : va_G} {cl : List vw_C} {A : Nat → Prop} {H : Heap} (ws : va_W) (hP : va_P D cl ws H) (hD : va_D A ws) : va_P D cl ws H ∧ va_D A ws := ⟨hP, hD⟩
theorem pd_sub {D : va_G} {cl : List vw_C} {A : Nat → Prop} {ws : va_W} {H : Heap} (ws' : va_W) (is : List Nat) (hP : va_P D cl ws H) (hD : va_D A ws) (hn : va_nd is = true) (hs : is.map (fun i => ws[i]?) = ws'.map some) : va_P D cl ws' H ∧ va_D A ws' := by
  refine ⟨?_, hD.sub is hn hs⟩
  intro k q hk
  have h1 : (is.map (fun i => ws[i]?))[k]? = some (some q) := by rw [hs, List.getElem?_map, hk]; rfl
  rw [List.getElem?_map] at h1
  cases hi : is[k]? with
  | none => rw [hi] at h1; cases h1
  | some i =>
    rw [hi] at h1
    exact hP i q (Option.some.inj h1)
/-! the reference's rows of numbers -/
def sg (se tm : Nat → Nat) (g : Nat → Int32) : Nat → Int32 := fun j => if j % 9 = 5 then nI (se (j / 9)) else if j % 9 = 7 then nI (tm (j / 9)) else g j
theorem sg_se (se tm : Nat → Nat) (g : Nat → Int32) (s : Nat) : sg se tm g (9 * s + 5) = nI (se s) := by
  unfold sg
  rw [if_pos (by omega), show (9 * s + 5) / 9 = s by omega]
theorem sg_tm (se tm : Nat → Nat) (g : Nat → Int32) (s : Nat) : sg se tm g (9 * s + 7) = nI (tm s) := by
  unfold sg
  rw [if_neg (by omega), if_pos (by omega), show (9 * s + 7) / 9 = s by omega]
theorem toInt_lit (n : Nat) (h : n < 2 ^ 31) : (nI n).toInt = (n : Int) := nI_toInt h
theorem inB_of {x : Int32} {n : Nat} (hn : n < 2 ^ 31) (h : inB x 0 (nI n)) : ∃ j : Nat, j ≤ n ∧ x = nI j := by
  obtain ⟨h0, h1⟩ := h
  exact nI_of2 (nI_toInt hn) (Int32.not_lt.mpr h0) h1
theorem inB_of1 {x : Int32} {n : Nat} (hn : n < 2 ^ 31) (h : inB x 0 (nI n - 1)) : ∃ j : Nat, j < n ∧ x = nI j := by
  rcases n with _ | n
  · rw [dn0] at h
    exact absurd (Int32.le_trans h.1 h.2) (by decide)
  · rw [nI_pred] at h
    obtain ⟨j, hj, e⟩ := inB_of (by omega) h
    exact ⟨j, by omega, e⟩
theorem inB_ofc {x : Int32} {a b : Nat} (ha : a < 2 ^ 31) (hb : b < 2 ^ 31) (h : inB x (nI a) (nI b)) : ∃ j : Nat, a ≤ j ∧ j ≤ b ∧ x = nI j := by
  obtain ⟨h0, h1⟩ := h
  have hx : ¬ x < 0 := fun hx => absurd h0 (nI_nle' ha hx)
  obtain ⟨j, hj, rfl⟩ := nI_of hx
  exact ⟨j, (nI_leI ha hj).mp h0, (nI_leI hj hb).mp h1, rfl⟩
/-- what a text has told so far keeps its bounds -/
def rsOK (f : Nat → Int32) : Prop := (∃ a : Nat, a ≤ 2 ∧ f 5 = nI a) ∧ ∃ b : Nat, b ≤ 3 ∧ f 7 = nI b
theorem rsOK_upd {f : Nat → Int32} (h : rsOK f) (c : Nat) (x : Int32) (h5 : c = 5 → ∃ a : Nat, a ≤ 2 ∧ x = nI a) (h7 : c = 7 → ∃ a : Nat, a ≤ 3 ∧ x = nI a) : rsOK (upd f c x) := by
  obtain ⟨⟨a, ha, ea⟩, b, hb, eb⟩ := h
  refine ⟨?_, ?_⟩
  · by_cases hc : c = 5
    · obtain ⟨a2, h1, h2⟩ := h5 hc
      exact ⟨a2, h1, by unfold upd; rw [if_pos hc.symm]; exact h2⟩
    · exact ⟨a, ha, by unfold upd; rw [if_neg (fun q => hc q.symm)]; exact ea⟩
  · by_cases hc : c = 7
    · obtain ⟨a2, h1, h2⟩ := h7 hc
      exact ⟨a2, h1, by unfold upd; rw [if_pos hc.symm]; exact h2⟩
    · exact ⟨b, hb, by unfold upd; rw [if_neg (fun q => hc q.symm)]; exact eb⟩
theorem rs_in {x : Int32} {n : Nat} (hn : n < 2 ^ 31) (h : inB x 0 (nI n)) : ∃ a : Nat, a ≤ n ∧ x = nI a := by
  obtain ⟨j, hj, e⟩ := inB_of hn h
  exact ⟨j, hj, e⟩
theorem inX0 : ∀ w ∈ u_ws RX0 TX0 5, w ∈ LW := LW_all (goodIn_of _ (by decide +kernel))
theorem inX1 : ∀ w ∈ u_ws RX1 TX1 8, w ∈ LW := LW_all (goodIn_of _ (by decide +kernel))
theorem inX2 : ∀ w ∈ u_ws RX2 TX2 5, w ∈ LW := LW_all (goodIn_of _ (by decide +kernel))
theorem inX3 : ∀ w ∈ u_ws RX3 TX3 5, w ∈ LW := LW_all (goodIn_of _ (by decide +kernel))
theorem inX4 : ∀ w ∈ u_ws RX4 TX4 6, w ∈ LW := LW_all (goodIn_of _ (by decide +kernel))
theorem inX5 : ∀ w ∈ u_ws RX5 TX5 4, w ∈ LW := LW_all (goodIn_of _ (by decide +kernel))
theorem inX6 : ∀ w ∈ u_ws RX6 TX6 6, w ∈ LW := LW_all (goodIn_of _ (by decide +kernel))
theorem inX7 : ∀ w ∈ u_ws RX7 TX7 12, w ∈ LW := LW_all (goodIn_of _ (by decide +kernel))
theorem inX8 : ∀ w ∈ u_ws RX8 TX8 44, w ∈ LW := LW_all (goodIn_of _ (by decide +kernel))
theorem lgo {L M : List Cond} {n i : Nat} {w : Cond} (hL : L.length = n) (h : M[i]? = some w) : (L ++ M)[n + i]? = some w := by
  subst hL
  rw [List.getElem?_append_right (Nat.le_add_right _ _), Nat.add_sub_cancel_left]
  exact h
theorem lgl {L M : List Cond} {i : Nat} {w : Cond} (h : L[i]? = some w) : (L ++ M)[i]? = some w := by
  rw [List.getElem?_append_left (List.getElem?_eq_some_iff.mp h).1]
  exact h
theorem lwn_0 : (k2_sels lw_privs).length = 78 := by decide +kernel
theorem lwn_1 : tables_1_1.length = 240 := by decide +kernel
theorem lwn_2 : tables_1_2.length = 240 := by decide +kernel
theorem lwn_3 : tables_1_3.length = 240 := by decide +kernel
theorem lwn_4 : tables_1_4.length = 240 := by decide +kernel
theorem lwn_5 : tables_1_5.length = 240 := by decide +kernel
theorem LWm1 {w : Cond} {i : Nat} (h : tables_1_1[i]? = some w) (hg : goodWord w = true) : w ∈ LW := LWm (i := 78 + i) (lgo lwn_0 (lgl h)) hg
theorem LWm2 {w : Cond} {i : Nat} (h : tables_1_2[i]? = some w) (hg : goodWord w = true) : w ∈ LW := LWm (i := 78 + (240 + i)) (lgo lwn_0 (lgo lwn_1 (lgl h))) hg
theorem LWm3 {w : Cond} {i : Nat} (h : tables_1_3[i]? = some w) (hg : goodWord w = true) : w ∈ LW := LWm (i := 78 + (240 + (240 + i))) (lgo lwn_0 (lgo lwn_1 (lgo lwn_2 (lgl h)))) hg
theorem LWm4 {w : Cond} {i : Nat} (h : tables_1_4[i]? = some w) (hg : goodWord w = true) : w ∈ LW := LWm (i := 78 + (240 + (240 + (240 + i)))) (lgo lwn_0 (lgo lwn_1 (lgo lwn_2 (lgo lwn_3 (lgl h))))) hg
theorem LWm5 {w : Cond} {i : Nat} (h : tables_1_5[i]? = some w) (hg : goodWord w = true) : w ∈ LW := LWm (i := 78 + (240 + (240 + (240 + (240 + i))))) (lgo lwn_0 (lgo lwn_1 (lgo lwn_2 (lgo lwn_3 (lgo lwn_4 (lgl h)))))) hg
theorem LWm6 {w : Cond} {i : Nat} (h : tables_1_6[i]? = some w) (hg : goodWord w = true) : w ∈ LW := LWm (i := 78 + (240 + (240 + (240 + (240 + (240 + i)))))) (lgo lwn_0 (lgo lwn_1 (lgo lwn_2 (lgo lwn_3 (lgo lwn_4 (lgo lwn_5 h)))))) hg
def fX0 (v0 : Nat) (v1 : Nat) (v2 : Nat) (v3 : Nat) (v4 : Nat) : List Value := [.ref v0, .ref v1, .ref v2, .ref v3, .ref v4]
def fX1 (v0 : Nat) (v1 : Nat) (v2 : Nat) (v3 : Nat) (v4 : Int32) (v5 : Int32) (v6 : Int32) (v7 : Int32) : List Value := [.ref v0, .ref v1, .ref v2, .ref v3, .int v4, .int v5, .int v6, .int v7]
def fX2 (v0 : Nat) (v1 : Nat) (v2 : Nat) (v3 : Int32) (v4 : Int32) : List Value := [.ref v0, .ref v1, .ref v2, .int v3, .int v4]
def fX3 (v0 : Nat) (v1 : Nat) (v2 : Int32) (v3 : Int32) (v4 : Int32) : List Value := [.ref v0, .ref v1, .int v2, .int v3, .int v4]
def fX4 (v0 : Nat) (v1 : Nat) (v2 : Int32) (v3 : Int32) (v4 : Int32) (v5 : Int32) : List Value := [.ref v0, .ref v1, .int v2, .int v3, .int v4, .int v5]
def fX5 (v0 : Nat) (v1 : Nat) (v2 : Nat) (v3 : Nat) : List Value := [.ref v0, .ref v1, .ref v2, .ref v3]
def fX6 (v0 : Nat) (v1 : Int32) (v2 : Int32) (v3 : Int32) (v4 : Int32) (v5 : Int32) : List Value := [.ref v0, .int v1, .int v2, .int v3, .int v4, .int v5]
def fX7 (v0 : Nat) (v1 : Nat) (v2 : Nat) (v3 : Nat) (v4 : Nat) (v5 : Int32) (v6 : Int32) (v7 : Nat) (v8 : Nat) (v9 : Nat) (v10 : Nat) (v11 : Nat) : List Value := [.ref v0, .ref v1, .ref v2, .ref v3, .ref v4, .int v5, .int v6, .ref v7, .ref v8, .ref v9, .ref v10, .ref v11]
def fX8 (a : Nat → Nat) (v5 : Int32) (v6 : Int32) (v7 : Int32) (v8 : Int64) (v9 : Int32) (v10 : Int32) (v11 : Int32) (v12 : Int32) (v16 : Int32) (v23 : Int32) (v30 : Int32) (v34 : Int32) (v37 : Int32) (v38 : Int32) (v41 : Int32) : List Value := [.ref (a 1), .ref (a 2), .ref (a 3), .ref (a 4), .ref (a 5), .int v5, .int v6, .int v7, .long v8, .int v9, .int v10, .int v11, .int v12, .ref (a 14), .ref (a 15), .ref (a 16), .int v16, .ref (a 18), .ref (a 19), .ref (a 20), .ref (a 21), .ref (a 22), .ref (a 23), .int v23, .ref (a 25), .ref (a 26), .ref (a 27), .ref (a 28), .ref (a 29), .ref (a 30), .int v30, .ref (a 32), .ref (a 33), .ref (a 34), .int v34, .ref (a 36), .ref (a 37), .int v37, .int v38, .ref (a 40), .ref (a 41), .int v41, .ref (a 43), .ref (a 44)]
def aB (k : Nat → ClassId) (a n : Nat) (f : Nat → Int32) : Nat × va_E := (a, .inl (k 0, n, .inl f))
def aI (k : Nat → ClassId) (a n : Nat) (f : Nat → Int32) : Nat × va_E := (a, .inl (k 1, n, .inl f))
def aZ (k : Nat → ClassId) (a n : Nat) (f : Nat → Int32) : Nat × va_E := (a, .inl (k 2, n, .inl f))

theorem f_glueP6 : True := trivial
/-- the reference's number of a clause -/
def clM (k : Nat) : Int32 := if k = 10 then -1 else if k = 0 then 9 else nI (k - 1)
def clQ (w : Int64) : Int32 :=
  if w = 2432449 then 9 else if w = 774500 then 0 else if w = 453773 then 1 else if w = 2487218 then 2 else if w = 237470 then 3 else if w = 1473549098 then 4 else if w = 13991 then 5 else if w = 9876874 then 6 else if w = 101329007 then 8 else -1
theorem kq {L : List Int32} {i : Nat} {c : Int64} (hL : ∀ x ∈ L, inB x 97 122) (hi : i < 14) (hc : c = wval (sByt.getD i [])) : wval L = c ↔ L = sByt.getD i [] := by
  rw [hc]
  exact wval_inj (sKa i hi) hL (sKs i hi)
theorem clQ_kw {L : List Int32} (hL : ∀ x ∈ L, inB x 97 122) : clQ (wval L) = clM (kwN L) := by
  unfold clQ kwN
  simp only [kq hL (i := 0) (c := 2432449) (by decide) (by decide +kernel), kq hL (i := 1) (c := 774500) (by decide) (by decide +kernel), kq hL (i := 2) (c := 453773) (by decide) (by decide +kernel), kq hL (i := 3) (c := 2487218) (by decide) (by decide +kernel), kq hL (i := 4) (c := 237470) (by decide) (by decide +kernel), kq hL (i := 5) (c := 1473549098) (by decide) (by decide +kernel), kq hL (i := 6) (c := 13991) (by decide) (by decide +kernel), kq hL (i := 7) (c := 9876874) (by decide) (by decide +kernel), kq hL (i := 9) (c := 101329007) (by decide) (by decide +kernel)]
  by_cases h0 : L = sByt.getD 0 []
  · rw [if_pos h0, if_pos h0]; rfl
  rw [if_neg h0, if_neg h0]
  by_cases h1 : L = sByt.getD 1 []
  · rw [if_pos h1, if_pos h1]; rfl
  rw [if_neg h1, if_neg h1]
  by_cases h2 : L = sByt.getD 2 []
  · rw [if_pos h2, if_pos h2]; rfl
  rw [if_neg h2, if_neg h2]
  by_cases h3 : L = sByt.getD 3 []
  · rw [if_pos h3, if_pos h3]; rfl
  rw [if_neg h3, if_neg h3]
  by_cases h4 : L = sByt.getD 4 []
  · rw [if_pos h4, if_pos h4]; rfl
  rw [if_neg h4, if_neg h4]
  by_cases h5 : L = sByt.getD 5 []
  · rw [if_pos h5, if_pos h5]; rfl
  rw [if_neg h5, if_neg h5]
  by_cases h6 : L = sByt.getD 6 []
  · rw [if_pos h6, if_pos h6]; rfl
  rw [if_neg h6, if_neg h6]
  by_cases h7 : L = sByt.getD 7 []
  · rw [if_pos h7, if_pos h7]; rfl
  rw [if_neg h7, if_neg h7]
  by_cases h9 : L = sByt.getD 9 []
  · rw [if_pos h9, if_pos h9]; rfl
  rw [if_neg h9, if_neg h9]
  rfl
theorem kwN_le (L : List Int32) : kwN L ≤ 10 ∧ kwN L ≠ 8 := by
  unfold kwN
  repeat' split
  all_goals decide
theorem lgn {x y : Int64} (h : ¬ lg_cmp x y = 0) : ¬ x = y := fun e => h (by rw [e]; unfold lg_cmp; rw [if_neg (fun q => absurd q Int64.lt_irrefl), if_pos rfl])
/-- the reference's told clauses, its state -/
def toM (m : Int32) : Nat → Bool := fun c => if 1 ≤ c ∧ c ≤ 9 then m.toBitVec.getLsbD (c - 1) else false
theorem toM_or {m : Int32} {k : Nat} (hk : k ≤ 8) : toM (m ||| ((1 : Int32) <<< (nI k &&& 31))) = setB (toM m) (k + 1) := by
  funext c
  show (if 1 ≤ c ∧ c ≤ 9 then (m ||| ((1 : Int32) <<< (nI k &&& 31))).toBitVec.getLsbD (c - 1) else false) = (if c = k + 1 then true else (if 1 ≤ c ∧ c ≤ 9 then m.toBitVec.getLsbD (c - 1) else false))
  by_cases h : c = k + 1
  · subst h
    rw [if_pos (by omega), if_pos rfl, bit_or m (by omega) (by omega)]
    simp
  · rw [if_neg h]
    by_cases h1 : 1 ≤ c ∧ c ≤ 9
    · rw [if_pos h1, if_pos h1, bit_or m (by omega) (by omega)]
      have h2 : ¬ c - 1 = k := by omega
      simp [h2]
    · rw [if_neg h1, if_neg h1]
theorem toM_or9 {m : Int32} : toM (m ||| ((1 : Int32) <<< (nI 9 &&& 31))) = toM m := by
  funext c
  show (if 1 ≤ c ∧ c ≤ 9 then (m ||| ((1 : Int32) <<< (nI 9 &&& 31))).toBitVec.getLsbD (c - 1) else false) = (if 1 ≤ c ∧ c ≤ 9 then m.toBitVec.getLsbD (c - 1) else false)
  by_cases h1 : 1 ≤ c ∧ c ≤ 9
  · rw [if_pos h1, if_pos h1, bit_or m (by omega) (by omega)]
    have h2 : ¬ c - 1 = 9 := by omega
    simp [h2]
  · rw [if_neg h1, if_neg h1]
theorem and1_01 (x : Int32) : x &&& 1 = 0 ∨ x &&& 1 = 1 := by
  have h := pk_and x (m := 1) 1 (by decide)
  rw [h]
  rcases (show x.toBitVec.toNat % 2 ^ 1 = 0 ∨ x.toBitVec.toNat % 2 ^ 1 = 1 by omega) with e | e
  · exact .inl (by rw [e]; rfl)
  · exact .inr (by rw [e]; rfl)
theorem toM_t {m : Int32} {k : Nat} (hk : k ≤ 8) (h : (m >>> (nI k &&& 31)) &&& 1 = 1) : toM m (k + 1) = true := by
  unfold toM
  rw [if_pos (by omega), Nat.add_sub_cancel]
  rcases hb : m.toBitVec.getLsbD k with _ | _
  · have h2 := (bitI m (c := k) (by omega)).mpr hb
    rw [h] at h2
    exact absurd h2 (by decide)
  · rfl
theorem toM_f {m : Int32} {k : Nat} (hk : k ≤ 8) (h : ¬ (m >>> (nI k &&& 31)) &&& 1 = 1) : ¬ toM m (k + 1) = true := by
  unfold toM
  rw [if_pos (by omega), Nat.add_sub_cancel, (bitI m (c := k) (by omega)).mp ((and1_01 _).resolve_right h)]
  decide
def gM (f : Nat → Int32) : Nat → Int32 := nG (fun j => f (j - 1))
def stM (rd : Nat) (fs ff fp : Nat → Int32) (m : Int32) : PSt := (rd, gM fs, clp rd ff, clp rd fp, toM m)
theorem gM_upd {f : Nat → Int32} {k : Nat} {v : Int32} (hk : k ≤ 8) : gM (upd f k v) = upd (gM f) (k + 1) v := by
  funext j
  show (if 1 ≤ j ∧ j ≤ 9 then (if j - 1 = k then v else f (j - 1)) else 0) = (if j = k + 1 then v else (if 1 ≤ j ∧ j ≤ 9 then f (j - 1) else 0))
  by_cases h : j = k + 1
  · subst h
    rw [if_pos (by omega), if_pos (by omega), if_pos rfl]
  · rw [if_neg h]
    by_cases h1 : 1 ≤ j ∧ j ≤ 9
    · rw [if_pos h1, if_pos h1, if_neg (by omega)]
    · rw [if_neg h1, if_neg h1]


def fM_clause (wd : Int64) : Int32 := ((if ((if (lg_cmp wd 2432449) = 0 then 9 else (if (lg_cmp wd 774500) = 0 then 0 else (if (lg_cmp wd 453773) = 0 then 1 else (if (lg_cmp wd 2487218) = 0 then 2 else (-1))))) : Int32) < 0 then ((if (lg_cmp wd 237470) = 0 then 3 else (if (lg_cmp wd 1473549098) = 0 then 4 else (if (lg_cmp wd 13991) = 0 then 5 else (if (lg_cmp wd 9876874) = 0 then 6 else (if (lg_cmp wd 101329007) = 0 then 8 else (-1)))))) : Int32) else ((if (lg_cmp wd 2432449) = 0 then 9 else (if (lg_cmp wd 774500) = 0 then 0 else (if (lg_cmp wd 453773) = 0 then 1 else (if (lg_cmp wd 2487218) = 0 then 2 else (-1))))) : Int32)) : Int32)
set_option maxHeartbeats 4000000 in
set_option maxRecDepth 100000 in
theorem n_clauseOf (l : Launch) (D : va_G) (k : Nat → ClassId) (st : Nat → Nat) (lo : Nat) (a : Nat → Nat) (tx : Nat) (t0 : Nat) (we : Nat) (rd : Nat) (ru : Nat) (rw : Nat) (ca : Nat) (fp : Int32) (wd : Int64) (nu : Int32) (na : Int32) (ts : Int32) (df : Int32) (db : Int32) (sd : Int32)  : CRi l D k st lo yX8_clauseOf cX8_clauseOf 7 (some .int) ({ frames := 2, cells := 0, slots := 0, locals := 45 }) [.ref (a 0)] [((a 0), .inr (8, (fX8 a (nI tx) fp (nI t0) wd (nI we) nu na (nI rd) ts (nI ru) (nI rw) (nI ca) df db sd)))] (fun r => r = fM_clause wd) := by
  intro sz
  refine Met.ofW (cc := cX8_clauseOf) (maxL := 7) (ret := (some .int)) (by decide) rfl ?_
  intro p e s m args below meth c s₁ B hml hv
  obtain ⟨rfl, hsz, hlo, hP, hK, hDL, hZ⟩ := hv
  have hx := B.exec
  have hb := B.bytes
  have hr := B.returns
  have hts := WS_ts B.pre
  have hown : s.vm.findClass RX8 = some m.cls := findClass_of_methodNamed B.named
  have hlocks := B.notSynchronized
  subst hsz
  have hA : ∀ q : Nat, s.heap.size ≤ q → (fun q : Nat => s.heap.size ≤ q) q := fun _ h => h
  have hAlo : ∀ q : Nat, (fun q : Nat => s.heap.size ≤ q) q → lo ≤ q := fun q h => Nat.le_trans hlo h
  have hS : va_S (fun q : Nat => s.heap.size ≤ q) s.heap s.heap [] := va_S.rf
  have hl := lv_entry ([.ref (a 0)]) (n := 7) (Nat.le_of_ble_eq_true rfl)
  rw [lg_entry_eq]
  generalize (lg_sl ([.ref (a 0)]) ++ List.replicate (7 - (lg_sl ([.ref (a 0)])).length) Slot.unset).toArray = ls at hl ⊢
  have hl : lv_has ls 7 [(0, .ref (a 0))] := hl
  refine lv_bipush (v := 99) hx hb dX8_clauseOf_0 (by decide) ?_
  refine lv_bipush (v := 117) hx hb dX8_clauseOf_2 (by decide) ?_
  refine lv_bipush (v := 114) hx hb dX8_clauseOf_4 (by decide) ?_
  refine ro_l (D := D) (va_runS (As := [.int 99, .int 117, .int 114]) (rest := []) ⟨hx, hb, hml, hown, hts⟩ ((n_code l D k st lo 99 117 114) s.heap.size) (va_cwS 3 hts (gS tw_1142 tw_1143 tw_87 tw_1144) rfl rfl rfl (by decide +kernel) ⟨Nat.le_of_ble_eq_true rfl, Nat.le_of_ble_eq_true rfl⟩) (pS hS hAlo hlo hP hK hDL hZ [] (by decide) rfl) rfl rfl hl.1 rfl (lv_room (Nat.le_of_ble_eq_true rfl)) dX8_clauseOf_6 ⟨Nat.le_of_ble_eq_true rfl, Nat.le_of_ble_eq_true rfl⟩) hS hA hP (fun r_1 H locs hw_1 hP hS => ?_)
  try dsimp only at hw_1
  obtain rfl : r_1 = 2772 := hw_1.trans (by decide)
  refine lv_bipush (v := 116) hx hb dX8_clauseOf_9 (by decide) ?_
  refine lv_bipush (v := 97) hx hb dX8_clauseOf_11 (by decide) ?_
  refine ro_l (D := D) (va_runS (As := [.long 2772, .int 116, .int 97]) (rest := []) ⟨hx, hb, hml, hown, hts⟩ ((n_longest l D k st lo 2772 116 97) H.size) (va_cwS 3 hts (gS tw_1145 tw_1146 tw_87 tw_1147) rfl rfl rfl (by decide +kernel) ⟨Nat.le_of_ble_eq_true rfl, Nat.le_of_ble_eq_true rfl⟩) (pS hS hAlo hlo hP hK hDL hZ [] (by decide) rfl) rfl rfl hl.1 rfl (lv_room (Nat.le_of_ble_eq_true rfl)) dX8_clauseOf_13 ⟨Nat.le_of_ble_eq_true rfl, Nat.le_of_ble_eq_true rfl⟩) hS hA hP (fun r_2 H locs hw_2 hP hS => ?_)
  try dsimp only at hw_2
  obtain rfl : r_2 = 2021329 := hw_2.trans (by decide)
  refine lv_bipush (v := 105) hx hb dX8_clauseOf_16 (by decide) ?_
  refine lv_bipush (v := 110) hx hb dX8_clauseOf_18 (by decide) ?_
  refine ro_l (D := D) (va_runS (As := [.long 2021329, .int 105, .int 110]) (rest := []) ⟨hx, hb, hml, hown, hts⟩ ((n_longest l D k st lo 2021329 105 110) H.size) (va_cwS 3 hts (gS tw_1145 tw_1146 tw_87 tw_1147) rfl rfl rfl (by decide +kernel) ⟨Nat.le_of_ble_eq_true rfl, Nat.le_of_ble_eq_true rfl⟩) (pS hS hAlo hlo hP hK hDL hZ [] (by decide) rfl) rfl rfl hl.1 rfl (lv_room (Nat.le_of_ble_eq_true rfl)) dX8_clauseOf_20 ⟨Nat.le_of_ble_eq_true rfl, Nat.le_of_ble_eq_true rfl⟩) hS hA hP (fun r_3 H locs hw_3 hP hS => ?_)
  try dsimp only at hw_3
  obtain rfl : r_3 = 1473549098 := hw_3.trans (by decide)
  refine lv_lstore_n (lv' := [(1, .long 1473549098), (0, .ref (a 0))]) hx hb dX8_clauseOf_23 rfl hl (by decide) rfl (fun ls hl => ?_)
  refine lv_bipush (v := 103) hx hb dX8_clauseOf_24 (by decide) ?_
  refine lv_bipush (v := 97) hx hb dX8_clauseOf_26 (by decide) ?_
  refine lv_bipush (v := 114) hx hb dX8_clauseOf_28 (by decide) ?_
  refine ro_l (D := D) (va_runS (As := [.int 103, .int 97, .int 114]) (rest := []) ⟨hx, hb, hml, hown, hts⟩ ((n_code l D k st lo 103 97 114) H.size) (va_cwS 3 hts (gS tw_1142 tw_1143 tw_87 tw_1144) rfl rfl rfl (by decide +kernel) ⟨Nat.le_of_ble_eq_true rfl, Nat.le_of_ble_eq_true rfl⟩) (pS hS hAlo hlo hP hK hDL hZ [] (by decide) rfl) rfl rfl hl.1 rfl (lv_room (Nat.le_of_ble_eq_true rfl)) dX8_clauseOf_30 ⟨Nat.le_of_ble_eq_true rfl, Nat.le_of_ble_eq_true rfl⟩) hS hA hP (fun r_4 H locs hw_4 hP hS => ?_)
  try dsimp only at hw_4
  obtain rfl : r_4 = 5148 := hw_4.trans (by decide)
  refine lv_bipush (v := 97) hx hb dX8_clauseOf_33 (by decide) ?_
  refine lv_bipush (v := 103) hx hb dX8_clauseOf_35 (by decide) ?_
  refine ro_l (D := D) (va_runS (As := [.long 5148, .int 97, .int 103]) (rest := []) ⟨hx, hb, hml, hown, hts⟩ ((n_longest l D k st lo 5148 97 103) H.size) (va_cwS 3 hts (gS tw_1145 tw_1146 tw_87 tw_1147) rfl rfl rfl (by decide +kernel) ⟨Nat.le_of_ble_eq_true rfl, Nat.le_of_ble_eq_true rfl⟩) (pS hS hAlo hlo hP hK hDL hZ [] (by decide) rfl) rfl rfl hl.1 rfl (lv_room (Nat.le_of_ble_eq_true rfl)) dX8_clauseOf_37 ⟨Nat.le_of_ble_eq_true rfl, Nat.le_of_ble_eq_true rfl⟩) hS hA hP (fun r_5 H locs hw_5 hP hS => ?_)
  try dsimp only at hw_5
  obtain rfl : r_5 = 3752926 := hw_5.trans (by decide)
  refine lv_bipush (v := 101) hx hb dX8_clauseOf_40 (by decide) ?_
  refine ro_l (D := D) (va_runS (As := [.long 3752926, .int 101]) (rest := []) ⟨hx, hb, hml, hown, hts⟩ ((n_longer l D k st lo 3752926 101) H.size) (va_cwS 2 hts (gS tw_1148 tw_1149 tw_87 tw_1150) rfl rfl rfl (by decide +kernel) ⟨Nat.le_of_ble_eq_true rfl, Nat.le_of_ble_eq_true rfl⟩) (pS hS hAlo hlo hP hK hDL hZ [] (by decide) rfl) rfl rfl hl.1 rfl (lv_room (Nat.le_of_ble_eq_true rfl)) dX8_clauseOf_42 ⟨Nat.le_of_ble_eq_true rfl, Nat.le_of_ble_eq_true rfl⟩) hS hA hP (fun r_6 H locs hw_6 hP hS => ?_)
  try dsimp only at hw_6
  obtain rfl : r_6 = 101329007 := hw_6.trans (by decide)
  refine lv_lstore_n (lv' := [(3, .long 101329007), (1, .long 1473549098), (0, .ref (a 0))]) hx hb dX8_clauseOf_45 rfl hl (by decide) rfl (fun ls hl => ?_)
  refine lv_aload_n hx hb dX8_clauseOf_46 rfl (lv_at hl 2 rfl) ?_
  refine va_get (D := D) (ci := 8) (v := .long wd) (C := RX8) (T := TX8) (N := 44) hx hb hts inX8 hown hK hP 0 rfl rfl 8 (by decide) (hts _ tw_981) (fun _ h9 => h9) rfl dX8_clauseOf_47 ?_
  refine lv_bipush (v := 100) hx hb dX8_clauseOf_50 (by decide) ?_
  refine lv_bipush (v := 111) hx hb dX8_clauseOf_52 (by decide) ?_
  refine lv_bipush (v := 111) hx hb dX8_clauseOf_54 (by decide) ?_
  refine ro_l (D := D) (va_runS (As := [.int 100, .int 111, .int 111]) (rest := [.long wd]) ⟨hx, hb, hml, hown, hts⟩ ((n_code l D k st lo 100 111 111) H.size) (va_cwS 3 hts (gS tw_1142 tw_1143 tw_87 tw_1144) rfl rfl rfl (by decide +kernel) ⟨Nat.le_of_ble_eq_true rfl, Nat.le_of_ble_eq_true rfl⟩) (pS hS hAlo hlo hP hK hDL hZ [] (by decide) rfl) rfl rfl hl.1 rfl (lv_room (Nat.le_of_ble_eq_true rfl)) dX8_clauseOf_56 ⟨Nat.le_of_ble_eq_true rfl, Nat.le_of_ble_eq_true rfl⟩) hS hA hP (fun r_7 H locs hw_7 hP hS => ?_)
  try dsimp only at hw_7
  obtain rfl : r_7 = 3336 := hw_7.trans (by decide)
  refine lv_bipush (v := 114) hx hb dX8_clauseOf_59 (by decide) ?_
  refine lv_bipush (v := 115) hx hb dX8_clauseOf_61 (by decide) ?_
  refine ro_l (D := D) (va_runS (As := [.long 3336, .int 114, .int 115]) (rest := [.long wd]) ⟨hx, hb, hml, hown, hts⟩ ((n_longest l D k st lo 3336 114 115) H.size) (va_cwS 3 hts (gS tw_1145 tw_1146 tw_87 tw_1147) rfl rfl rfl (by decide +kernel) ⟨Nat.le_of_ble_eq_true rfl, Nat.le_of_ble_eq_true rfl⟩) (pS hS hAlo hlo hP hK hDL hZ [] (by decide) rfl) rfl rfl hl.1 rfl (lv_room (Nat.le_of_ble_eq_true rfl)) dX8_clauseOf_63 ⟨Nat.le_of_ble_eq_true rfl, Nat.le_of_ble_eq_true rfl⟩) hS hA hP (fun r_8 H locs hw_8 hP hS => ?_)
  try dsimp only at hw_8
  obtain rfl : r_8 = 2432449 := hw_8.trans (by decide)
  refine W.lcmp hx hb dX8_clauseOf_66 ?_
  refine W_join (fun (x_19 : Int32) (H : Heap) (locs : List Loc) (ls : Array Slot) => x_19 = ((if (lg_cmp wd 2432449) = 0 then 9 else (if (lg_cmp wd 774500) = 0 then 0 else (if (lg_cmp wd 453773) = 0 then 1 else (if (lg_cmp wd 2487218) = 0 then 2 else (-1))))) : Int32) ∧ va_P D classes [((a 0), .inr (8, (fX8 a (nI tx) fp (nI t0) wd (nI we) nu na (nI rd) ts (nI ru) (nI rw) (nI ca) df db sd)))] H ∧ va_S (fun q : Nat => s.heap.size ≤ q) s.heap H locs ∧ lv_has ls 7 [(3, .long 101329007), (1, .long 1473549098), (0, .ref (a 0))]) (fun (x_19 : Int32) => [.int x_19]) 158 (fun x_19 H locs ls hJ => ?_) (fun J_19 => ?_)
  · obtain ⟨hj_19, hP, hS, hl⟩ := hJ
    show W p l e _ s m _ below meth c H locs _ _ _ (F0 m 158 ls [.int x_19])
    refine lv_istore (lv' := [(5, .int x_19), (3, .long 101329007), (1, .long 1473549098), (0, .ref (a 0))]) hx hb dX8_clauseOf_158 hl (by decide) rfl (fun ls hl => ?_)
    refine lv_aload_n hx hb dX8_clauseOf_160 rfl (lv_at hl 3 rfl) ?_
    refine va_get (D := D) (ci := 8) (v := .long wd) (C := RX8) (T := TX8) (N := 44) hx hb hts inX8 hown hK hP 0 rfl rfl 8 (by decide) (hts _ tw_981) (fun _ h9 => h9) rfl dX8_clauseOf_161 ?_
    refine lv_bipush (v := 108) hx hb dX8_clauseOf_164 (by decide) ?_
    refine lv_bipush (v := 97) hx hb dX8_clauseOf_166 (by decide) ?_
    refine lv_bipush (v := 116) hx hb dX8_clauseOf_168 (by decide) ?_
    refine ro_l (D := D) (va_runS (As := [.int 108, .int 97, .int 116]) (rest := [.long wd]) ⟨hx, hb, hml, hown, hts⟩ ((n_code l D k st lo 108 97 116) H.size) (va_cwS 3 hts (gS tw_1142 tw_1143 tw_87 tw_1144) rfl rfl rfl (by decide +kernel) ⟨Nat.le_of_ble_eq_true rfl, Nat.le_of_ble_eq_true rfl⟩) (pS hS hAlo hlo hP hK hDL hZ [] (by decide) rfl) rfl rfl hl.1 rfl (lv_room (Nat.le_of_ble_eq_true rfl)) dX8_clauseOf_170 ⟨Nat.le_of_ble_eq_true rfl, Nat.le_of_ble_eq_true rfl⟩) hS hA hP (fun r_20 H locs hw_20 hP hS => ?_)
    try dsimp only at hw_20
    obtain rfl : r_20 = 8795 := hw_20.trans (by decide)
    refine lv_bipush (v := 101) hx hb dX8_clauseOf_173 (by decide) ?_
    refine ro_l (D := D) (va_runS (As := [.long 8795, .int 101]) (rest := [.long wd]) ⟨hx, hb, hml, hown, hts⟩ ((n_longer l D k st lo 8795 101) H.size) (va_cwS 2 hts (gS tw_1148 tw_1149 tw_87 tw_1150) rfl rfl rfl (by decide +kernel) ⟨Nat.le_of_ble_eq_true rfl, Nat.le_of_ble_eq_true rfl⟩) (pS hS hAlo hlo hP hK hDL hZ [] (by decide) rfl) rfl rfl hl.1 rfl (lv_room (Nat.le_of_ble_eq_true rfl)) dX8_clauseOf_175 ⟨Nat.le_of_ble_eq_true rfl, Nat.le_of_ble_eq_true rfl⟩) hS hA hP (fun r_21 H locs hw_21 hP hS => ?_)
    try dsimp only at hw_21
    obtain rfl : r_21 = 237470 := hw_21.trans (by decide)
    refine W.lcmp hx hb dX8_clauseOf_178 ?_
    refine W_join (fun (x_30 : Int32) (H : Heap) (locs : List Loc) (ls : Array Slot) => x_30 = ((if (lg_cmp wd 237470) = 0 then 3 else (if (lg_cmp wd 1473549098) = 0 then 4 else (if (lg_cmp wd 13991) = 0 then 5 else (if (lg_cmp wd 9876874) = 0 then 6 else (if (lg_cmp wd 101329007) = 0 then 8 else (-1)))))) : Int32) ∧ va_P D classes [((a 0), .inr (8, (fX8 a (nI tx) fp (nI t0) wd (nI we) nu na (nI rd) ts (nI ru) (nI rw) (nI ca) df db sd)))] H ∧ va_S (fun q : Nat => s.heap.size ≤ q) s.heap H locs ∧ lv_has ls 7 [(5, .int x_19), (3, .long 101329007), (1, .long 1473549098), (0, .ref (a 0))]) (fun (x_30 : Int32) => [.int x_30]) 264 (fun x_30 H locs ls hJ => ?_) (fun J_30 => ?_)
    · obtain ⟨hj_30, hP, hS, hl⟩ := hJ
      show W p l e _ s m _ below meth c H locs _ _ _ (F0 m 264 ls [.int x_30])
      refine lv_istore (lv' := [(6, .int x_30), (5, .int x_19), (3, .long 101329007), (1, .long 1473549098), (0, .ref (a 0))]) hx hb dX8_clauseOf_264 hl (by decide) rfl (fun ls hl => ?_)
      refine lv_iload hx hb dX8_clauseOf_266 (lv_at hl 1 rfl) ?_
      refine W_join (fun (x_32 : Int32) (H : Heap) (locs : List Loc) (ls : Array Slot) => x_32 = ((if x_19 < 0 then x_30 else x_19) : Int32) ∧ va_P D classes [((a 0), .inr (8, (fX8 a (nI tx) fp (nI t0) wd (nI we) nu na (nI rd) ts (nI ru) (nI rw) (nI ca) df db sd)))] H ∧ va_S (fun q : Nat => s.heap.size ≤ q) s.heap H locs ∧ lv_has ls 7 [(6, .int x_30), (5, .int x_19), (3, .long 101329007), (1, .long 1473549098), (0, .ref (a 0))]) (fun (x_32 : Int32) => [.int x_32]) 278 (fun x_32 H locs ls hJ => ?_) (fun J_32 => ?_)
      · obtain ⟨hj_32, hP, hS, hl⟩ := hJ
        show W p l e _ s m _ below meth c H locs _ _ _ (F0 m 278 ls [.int x_32])
        exact W.iret (v := x_32) hx hb hr (fun t ht hW => ⟨⟨x_32, (), rfl, (by show _ = fM_clause wd; unfold fM_clause; first | (rw [hj_32, hj_30, hj_19]; done) | (rw [hj_32, hj_30, hj_19]; rfl) | (simp only [hj_32, hj_30, hj_19]; done)), trivial⟩, hS.F ht⟩) hS.2.2 dX8_clauseOf_278
      · refine lv_if_lt (tgt := 276) hx hb dX8_clauseOf_268 (by decide) (fun c_33 => ?_) (fun c_33 => ?_)
        · refine lv_iload hx hb dX8_clauseOf_276 (lv_at hl 0 rfl) ?_
          exact J_32 x_30 _ _ _ ⟨(by first | (rw [if_pos c_33]; done) | (rw [if_pos c_33]; rfl) | (simp only [if_pos c_33]; done)), hP, hS, lv_sub hl [0, 1, 2, 3, 4] rfl⟩
        · refine lv_iload hx hb dX8_clauseOf_271 (lv_at hl 1 rfl) ?_
          refine lv_goto (tgt := 278) hx hb dX8_clauseOf_273 (by decide) ?_
          exact J_32 x_19 _ _ _ ⟨(by first | (rw [if_neg c_33]; done) | (rw [if_neg c_33]; rfl) | (simp only [if_neg c_33]; done)), hP, hS, lv_sub hl [0, 1, 2, 3, 4] rfl⟩
    · refine lv_if_ne (tgt := 186) hx hb dX8_clauseOf_179 (by decide) (fun c_34 => ?_) (fun c_34 => ?_)
      · refine lv_aload_n hx hb dX8_clauseOf_186 rfl (lv_at hl 3 rfl) ?_
        refine va_get (D := D) (ci := 8) (v := .long wd) (C := RX8) (T := TX8) (N := 44) hx hb hts inX8 hown hK hP 0 rfl rfl 8 (by decide) (hts _ tw_981) (fun _ h9 => h9) rfl dX8_clauseOf_187 ?_
        refine lv_lload_n hx hb dX8_clauseOf_190 rfl (lv_at hl 2 rfl) ?_
        refine W.lcmp hx hb dX8_clauseOf_191 ?_
        refine lv_if_ne (tgt := 199) hx hb dX8_clauseOf_192 (by decide) (fun c_35 => ?_) (fun c_35 => ?_)
        · refine lv_aload_n hx hb dX8_clauseOf_199 rfl (lv_at hl 3 rfl) ?_
          refine va_get (D := D) (ci := 8) (v := .long wd) (C := RX8) (T := TX8) (N := 44) hx hb hts inX8 hown hK hP 0 rfl rfl 8 (by decide) (hts _ tw_981) (fun _ h9 => h9) rfl dX8_clauseOf_200 ?_
          refine lv_bipush (v := 115) hx hb dX8_clauseOf_203 (by decide) ?_
          refine lv_bipush (v := 101) hx hb dX8_clauseOf_205 (by decide) ?_
          refine lv_bipush (v := 101) hx hb dX8_clauseOf_207 (by decide) ?_
          refine ro_l (D := D) (va_runS (As := [.int 115, .int 101, .int 101]) (rest := [.long wd]) ⟨hx, hb, hml, hown, hts⟩ ((n_code l D k st lo 115 101 101) H.size) (va_cwS 3 hts (gS tw_1142 tw_1143 tw_87 tw_1144) rfl rfl rfl (by decide +kernel) ⟨Nat.le_of_ble_eq_true rfl, Nat.le_of_ble_eq_true rfl⟩) (pS hS hAlo hlo hP hK hDL hZ [] (by decide) rfl) rfl rfl hl.1 rfl (lv_room (Nat.le_of_ble_eq_true rfl)) dX8_clauseOf_209 ⟨Nat.le_of_ble_eq_true rfl, Nat.le_of_ble_eq_true rfl⟩) hS hA hP (fun r_36 H locs hw_36 hP hS => ?_)
          try dsimp only at hw_36
          obtain rfl : r_36 = 13991 := hw_36.trans (by decide)
          refine W.lcmp hx hb dX8_clauseOf_212 ?_
          refine lv_if_ne (tgt := 220) hx hb dX8_clauseOf_213 (by decide) (fun c_37 => ?_) (fun c_37 => ?_)
          · refine lv_aload_n hx hb dX8_clauseOf_220 rfl (lv_at hl 3 rfl) ?_
            refine va_get (D := D) (ci := 8) (v := .long wd) (C := RX8) (T := TX8) (N := 44) hx hb hts inX8 hown hK hP 0 rfl rfl 8 (by decide) (hts _ tw_981) (fun _ h9 => h9) rfl dX8_clauseOf_221 ?_
            refine lv_bipush (v := 114) hx hb dX8_clauseOf_224 (by decide) ?_
            refine lv_bipush (v := 111) hx hb dX8_clauseOf_226 (by decide) ?_
            refine lv_bipush (v := 117) hx hb dX8_clauseOf_228 (by decide) ?_
            refine ro_l (D := D) (va_runS (As := [.int 114, .int 111, .int 117]) (rest := [.long wd]) ⟨hx, hb, hml, hown, hts⟩ ((n_code l D k st lo 114 111 117) H.size) (va_cwS 3 hts (gS tw_1142 tw_1143 tw_87 tw_1144) rfl rfl rfl (by decide +kernel) ⟨Nat.le_of_ble_eq_true rfl, Nat.le_of_ble_eq_true rfl⟩) (pS hS hAlo hlo hP hK hDL hZ [] (by decide) rfl) rfl rfl hl.1 rfl (lv_room (Nat.le_of_ble_eq_true rfl)) dX8_clauseOf_230 ⟨Nat.le_of_ble_eq_true rfl, Nat.le_of_ble_eq_true rfl⟩) hS hA hP (fun r_38 H locs hw_38 hP hS => ?_)
            try dsimp only at hw_38
            obtain rfl : r_38 = 13548 := hw_38.trans (by decide)
            refine lv_bipush (v := 110) hx hb dX8_clauseOf_233 (by decide) ?_
            refine lv_bipush (v := 100) hx hb dX8_clauseOf_235 (by decide) ?_
            refine ro_l (D := D) (va_runS (As := [.long 13548, .int 110, .int 100]) (rest := [.long wd]) ⟨hx, hb, hml, hown, hts⟩ ((n_longest l D k st lo 13548 110 100) H.size) (va_cwS 3 hts (gS tw_1145 tw_1146 tw_87 tw_1147) rfl rfl rfl (by decide +kernel) ⟨Nat.le_of_ble_eq_true rfl, Nat.le_of_ble_eq_true rfl⟩) (pS hS hAlo hlo hP hK hDL hZ [] (by decide) rfl) rfl rfl hl.1 rfl (lv_room (Nat.le_of_ble_eq_true rfl)) dX8_clauseOf_237 ⟨Nat.le_of_ble_eq_true rfl, Nat.le_of_ble_eq_true rfl⟩) hS hA hP (fun r_39 H locs hw_39 hP hS => ?_)
            try dsimp only at hw_39
            obtain rfl : r_39 = 9876874 := hw_39.trans (by decide)
            refine W.lcmp hx hb dX8_clauseOf_240 ?_
            refine lv_if_ne (tgt := 249) hx hb dX8_clauseOf_241 (by decide) (fun c_40 => ?_) (fun c_40 => ?_)
            · refine lv_aload_n hx hb dX8_clauseOf_249 rfl (lv_at hl 3 rfl) ?_
              refine va_get (D := D) (ci := 8) (v := .long wd) (C := RX8) (T := TX8) (N := 44) hx hb hts inX8 hown hK hP 0 rfl rfl 8 (by decide) (hts _ tw_981) (fun _ h9 => h9) rfl dX8_clauseOf_250 ?_
              refine lv_lload_n hx hb dX8_clauseOf_253 rfl (lv_at hl 1 rfl) ?_
              refine W.lcmp hx hb dX8_clauseOf_254 ?_
              refine lv_if_ne (tgt := 263) hx hb dX8_clauseOf_255 (by decide) (fun c_41 => ?_) (fun c_41 => ?_)
              · refine lv_iconst (v := (-1)) hx hb dX8_clauseOf_263 (by decide) ?_
                exact J_30 (-1) _ _ _ ⟨(by first | (rw [if_neg c_34, if_neg c_35, if_neg c_37, if_neg c_40, if_neg c_41]; done) | (rw [if_neg c_34, if_neg c_35, if_neg c_37, if_neg c_40, if_neg c_41]; rfl) | (simp only [if_neg c_34, if_neg c_35, if_neg c_37, if_neg c_40, if_neg c_41]; done)), hP, hS, lv_sub hl [0, 1, 2, 3] rfl⟩
              · refine lv_bipush (v := 8) hx hb dX8_clauseOf_258 (by decide) ?_
                refine lv_goto (tgt := 264) hx hb dX8_clauseOf_260 (by decide) ?_
                exact J_30 8 _ _ _ ⟨(by first | (rw [if_neg c_34, if_neg c_35, if_neg c_37, if_neg c_40, if_pos c_41]; done) | (rw [if_neg c_34, if_neg c_35, if_neg c_37, if_neg c_40, if_pos c_41]; rfl) | (simp only [if_neg c_34, if_neg c_35, if_neg c_37, if_neg c_40, if_pos c_41]; done)), hP, hS, lv_sub hl [0, 1, 2, 3] rfl⟩
            · refine lv_bipush (v := 6) hx hb dX8_clauseOf_244 (by decide) ?_
              refine lv_goto (tgt := 264) hx hb dX8_clauseOf_246 (by decide) ?_
              exact J_30 6 _ _ _ ⟨(by first | (rw [if_neg c_34, if_neg c_35, if_neg c_37, if_pos c_40]; done) | (rw [if_neg c_34, if_neg c_35, if_neg c_37, if_pos c_40]; rfl) | (simp only [if_neg c_34, if_neg c_35, if_neg c_37, if_pos c_40]; done)), hP, hS, lv_sub hl [0, 1, 2, 3] rfl⟩
          · refine lv_iconst (v := 5) hx hb dX8_clauseOf_216 (by decide) ?_
            refine lv_goto (tgt := 264) hx hb dX8_clauseOf_217 (by decide) ?_
            exact J_30 5 _ _ _ ⟨(by first | (rw [if_neg c_34, if_neg c_35, if_pos c_37]; done) | (rw [if_neg c_34, if_neg c_35, if_pos c_37]; rfl) | (simp only [if_neg c_34, if_neg c_35, if_pos c_37]; done)), hP, hS, lv_sub hl [0, 1, 2, 3] rfl⟩
        · refine lv_iconst (v := 4) hx hb dX8_clauseOf_195 (by decide) ?_
          refine lv_goto (tgt := 264) hx hb dX8_clauseOf_196 (by decide) ?_
          exact J_30 4 _ _ _ ⟨(by first | (rw [if_neg c_34, if_pos c_35]; done) | (rw [if_neg c_34, if_pos c_35]; rfl) | (simp only [if_neg c_34, if_pos c_35]; done)), hP, hS, lv_sub hl [0, 1, 2, 3] rfl⟩
      · refine lv_iconst (v := 3) hx hb dX8_clauseOf_182 (by decide) ?_
        refine lv_goto (tgt := 264) hx hb dX8_clauseOf_183 (by decide) ?_
        exact J_30 3 _ _ _ ⟨(by first | (rw [if_pos c_34]; done) | (rw [if_pos c_34]; rfl) | (simp only [if_pos c_34]; done)), hP, hS, lv_sub hl [0, 1, 2, 3] rfl⟩
  · refine lv_if_ne (tgt := 75) hx hb dX8_clauseOf_67 (by decide) (fun c_42 => ?_) (fun c_42 => ?_)
    · refine lv_aload_n hx hb dX8_clauseOf_75 rfl (lv_at hl 2 rfl) ?_
      refine va_get (D := D) (ci := 8) (v := .long wd) (C := RX8) (T := TX8) (N := 44) hx hb hts inX8 hown hK hP 0 rfl rfl 8 (by decide) (hts _ tw_981) (fun _ h9 => h9) rfl dX8_clauseOf_76 ?_
      refine lv_bipush (v := 97) hx hb dX8_clauseOf_79 (by decide) ?_
      refine lv_bipush (v := 108) hx hb dX8_clauseOf_81 (by decide) ?_
      refine lv_bipush (v := 105) hx hb dX8_clauseOf_83 (by decide) ?_
      refine ro_l (D := D) (va_runS (As := [.int 97, .int 108, .int 105]) (rest := [.long wd]) ⟨hx, hb, hml, hown, hts⟩ ((n_code l D k st lo 97 108 105) H.size) (va_cwS 3 hts (gS tw_1142 tw_1143 tw_87 tw_1144) rfl rfl rfl (by decide +kernel) ⟨Nat.le_of_ble_eq_true rfl, Nat.le_of_ble_eq_true rfl⟩) (pS hS hAlo hlo hP hK hDL hZ [] (by decide) rfl) rfl rfl hl.1 rfl (lv_room (Nat.le_of_ble_eq_true rfl)) dX8_clauseOf_85 ⟨Nat.le_of_ble_eq_true rfl, Nat.le_of_ble_eq_true rfl⟩) hS hA hP (fun r_43 H locs hw_43 hP hS => ?_)
      try dsimp only at hw_43
      obtain rfl : r_43 = 1062 := hw_43.trans (by decide)
      refine lv_bipush (v := 107) hx hb dX8_clauseOf_88 (by decide) ?_
      refine lv_bipush (v := 101) hx hb dX8_clauseOf_90 (by decide) ?_
      refine ro_l (D := D) (va_runS (As := [.long 1062, .int 107, .int 101]) (rest := [.long wd]) ⟨hx, hb, hml, hown, hts⟩ ((n_longest l D k st lo 1062 107 101) H.size) (va_cwS 3 hts (gS tw_1145 tw_1146 tw_87 tw_1147) rfl rfl rfl (by decide +kernel) ⟨Nat.le_of_ble_eq_true rfl, Nat.le_of_ble_eq_true rfl⟩) (pS hS hAlo hlo hP hK hDL hZ [] (by decide) rfl) rfl rfl hl.1 rfl (lv_room (Nat.le_of_ble_eq_true rfl)) dX8_clauseOf_92 ⟨Nat.le_of_ble_eq_true rfl, Nat.le_of_ble_eq_true rfl⟩) hS hA hP (fun r_44 H locs hw_44 hP hS => ?_)
      try dsimp only at hw_44
      obtain rfl : r_44 = 774500 := hw_44.trans (by decide)
      refine W.lcmp hx hb dX8_clauseOf_95 ?_
      refine lv_if_ne (tgt := 103) hx hb dX8_clauseOf_96 (by decide) (fun c_45 => ?_) (fun c_45 => ?_)
      · refine lv_aload_n hx hb dX8_clauseOf_103 rfl (lv_at hl 2 rfl) ?_
        refine va_get (D := D) (ci := 8) (v := .long wd) (C := RX8) (T := TX8) (N := 44) hx hb hts inX8 hown hK hP 0 rfl rfl 8 (by decide) (hts _ tw_981) (fun _ h9 => h9) rfl dX8_clauseOf_104 ?_
        refine lv_bipush (v := 119) hx hb dX8_clauseOf_107 (by decide) ?_
        refine lv_bipush (v := 97) hx hb dX8_clauseOf_109 (by decide) ?_
        refine lv_bipush (v := 108) hx hb dX8_clauseOf_111 (by decide) ?_
        refine ro_l (D := D) (va_runS (As := [.int 119, .int 97, .int 108]) (rest := [.long wd]) ⟨hx, hb, hml, hown, hts⟩ ((n_code l D k st lo 119 97 108) H.size) (va_cwS 3 hts (gS tw_1142 tw_1143 tw_87 tw_1144) rfl rfl rfl (by decide +kernel) ⟨Nat.le_of_ble_eq_true rfl, Nat.le_of_ble_eq_true rfl⟩) (pS hS hAlo hlo hP hK hDL hZ [] (by decide) rfl) rfl rfl hl.1 rfl (lv_room (Nat.le_of_ble_eq_true rfl)) dX8_clauseOf_113 ⟨Nat.le_of_ble_eq_true rfl, Nat.le_of_ble_eq_true rfl⟩) hS hA hP (fun r_46 H locs hw_46 hP hS => ?_)
        try dsimp only at hw_46
        obtain rfl : r_46 = 16806 := hw_46.trans (by decide)
        refine lv_bipush (v := 107) hx hb dX8_clauseOf_116 (by decide) ?_
        refine ro_l (D := D) (va_runS (As := [.long 16806, .int 107]) (rest := [.long wd]) ⟨hx, hb, hml, hown, hts⟩ ((n_longer l D k st lo 16806 107) H.size) (va_cwS 2 hts (gS tw_1148 tw_1149 tw_87 tw_1150) rfl rfl rfl (by decide +kernel) ⟨Nat.le_of_ble_eq_true rfl, Nat.le_of_ble_eq_true rfl⟩) (pS hS hAlo hlo hP hK hDL hZ [] (by decide) rfl) rfl rfl hl.1 rfl (lv_room (Nat.le_of_ble_eq_true rfl)) dX8_clauseOf_118 ⟨Nat.le_of_ble_eq_true rfl, Nat.le_of_ble_eq_true rfl⟩) hS hA hP (fun r_47 H locs hw_47 hP hS => ?_)
        try dsimp only at hw_47
        obtain rfl : r_47 = 453773 := hw_47.trans (by decide)
        refine W.lcmp hx hb dX8_clauseOf_121 ?_
        refine lv_if_ne (tgt := 129) hx hb dX8_clauseOf_122 (by decide) (fun c_48 => ?_) (fun c_48 => ?_)
        · refine lv_aload_n hx hb dX8_clauseOf_129 rfl (lv_at hl 2 rfl) ?_
          refine va_get (D := D) (ci := 8) (v := .long wd) (C := RX8) (T := TX8) (N := 44) hx hb hts inX8 hown hK hP 0 rfl rfl 8 (by decide) (hts _ tw_981) (fun _ h9 => h9) rfl dX8_clauseOf_130 ?_
          refine lv_bipush (v := 100) hx hb dX8_clauseOf_133 (by decide) ?_
          refine lv_bipush (v := 114) hx hb dX8_clauseOf_135 (by decide) ?_
          refine lv_bipush (v := 105) hx hb dX8_clauseOf_137 (by decide) ?_
          refine ro_l (D := D) (va_runS (As := [.int 100, .int 114, .int 105]) (rest := [.long wd]) ⟨hx, hb, hml, hown, hts⟩ ((n_code l D k st lo 100 114 105) H.size) (va_cwS 3 hts (gS tw_1142 tw_1143 tw_87 tw_1144) rfl rfl rfl (by decide +kernel) ⟨Nat.le_of_ble_eq_true rfl, Nat.le_of_ble_eq_true rfl⟩) (pS hS hAlo hlo hP hK hDL hZ [] (by decide) rfl) rfl rfl hl.1 rfl (lv_room (Nat.le_of_ble_eq_true rfl)) dX8_clauseOf_139 ⟨Nat.le_of_ble_eq_true rfl, Nat.le_of_ble_eq_true rfl⟩) hS hA hP (fun r_49 H locs hw_49 hP hS => ?_)
          try dsimp only at hw_49
          obtain rfl : r_49 = 3411 := hw_49.trans (by decide)
          refine lv_bipush (v := 118) hx hb dX8_clauseOf_142 (by decide) ?_
          refine lv_bipush (v := 101) hx hb dX8_clauseOf_144 (by decide) ?_
          refine ro_l (D := D) (va_runS (As := [.long 3411, .int 118, .int 101]) (rest := [.long wd]) ⟨hx, hb, hml, hown, hts⟩ ((n_longest l D k st lo 3411 118 101) H.size) (va_cwS 3 hts (gS tw_1145 tw_1146 tw_87 tw_1147) rfl rfl rfl (by decide +kernel) ⟨Nat.le_of_ble_eq_true rfl, Nat.le_of_ble_eq_true rfl⟩) (pS hS hAlo hlo hP hK hDL hZ [] (by decide) rfl) rfl rfl hl.1 rfl (lv_room (Nat.le_of_ble_eq_true rfl)) dX8_clauseOf_146 ⟨Nat.le_of_ble_eq_true rfl, Nat.le_of_ble_eq_true rfl⟩) hS hA hP (fun r_50 H locs hw_50 hP hS => ?_)
          try dsimp only at hw_50
          obtain rfl : r_50 = 2487218 := hw_50.trans (by decide)
          refine W.lcmp hx hb dX8_clauseOf_149 ?_
          refine lv_if_ne (tgt := 157) hx hb dX8_clauseOf_150 (by decide) (fun c_51 => ?_) (fun c_51 => ?_)
          · refine lv_iconst (v := (-1)) hx hb dX8_clauseOf_157 (by decide) ?_
            exact J_19 (-1) _ _ _ ⟨(by first | (rw [if_neg c_42, if_neg c_45, if_neg c_48, if_neg c_51]; done) | (rw [if_neg c_42, if_neg c_45, if_neg c_48, if_neg c_51]; rfl) | (simp only [if_neg c_42, if_neg c_45, if_neg c_48, if_neg c_51]; done)), hP, hS, lv_sub hl [0, 1, 2] rfl⟩
          · refine lv_iconst (v := 2) hx hb dX8_clauseOf_153 (by decide) ?_
            refine lv_goto (tgt := 158) hx hb dX8_clauseOf_154 (by decide) ?_
            exact J_19 2 _ _ _ ⟨(by first | (rw [if_neg c_42, if_neg c_45, if_neg c_48, if_pos c_51]; done) | (rw [if_neg c_42, if_neg c_45, if_neg c_48, if_pos c_51]; rfl) | (simp only [if_neg c_42, if_neg c_45, if_neg c_48, if_pos c_51]; done)), hP, hS, lv_sub hl [0, 1, 2] rfl⟩
        · refine lv_iconst (v := 1) hx hb dX8_clauseOf_125 (by decide) ?_
          refine lv_goto (tgt := 158) hx hb dX8_clauseOf_126 (by decide) ?_
          exact J_19 1 _ _ _ ⟨(by first | (rw [if_neg c_42, if_neg c_45, if_pos c_48]; done) | (rw [if_neg c_42, if_neg c_45, if_pos c_48]; rfl) | (simp only [if_neg c_42, if_neg c_45, if_pos c_48]; done)), hP, hS, lv_sub hl [0, 1, 2] rfl⟩
      · refine lv_iconst (v := 0) hx hb dX8_clauseOf_99 (by decide) ?_
        refine lv_goto (tgt := 158) hx hb dX8_clauseOf_100 (by decide) ?_
        exact J_19 0 _ _ _ ⟨(by first | (rw [if_neg c_42, if_pos c_45]; done) | (rw [if_neg c_42, if_pos c_45]; rfl) | (simp only [if_neg c_42, if_pos c_45]; done)), hP, hS, lv_sub hl [0, 1, 2] rfl⟩
    · refine lv_bipush (v := 9) hx hb dX8_clauseOf_70 (by decide) ?_
      refine lv_goto (tgt := 158) hx hb dX8_clauseOf_72 (by decide) ?_
      exact J_19 9 _ _ _ ⟨(by first | (rw [if_pos c_42]; done) | (rw [if_pos c_42]; rfl) | (simp only [if_pos c_42]; done)), hP, hS, lv_sub hl [0, 1, 2] rfl⟩


theorem f_clq : True := trivial
theorem lg0 {x y : Int64} : lg_cmp x y = 0 ↔ x = y := ⟨lgc0, fun h => Classical.not_not.mp (fun q => lgn q h)⟩
theorem fM_clq (w : Int64) : fM_clause w = clQ w := by
  unfold fM_clause clQ
  simp only [lg0]
  by_cases h0 : w = 2432449
  · subst h0
    decide
  by_cases h1 : w = 774500
  · subst h1
    decide
  by_cases h2 : w = 453773
  · subst h2
    decide
  by_cases h3 : w = 2487218
  · subst h3
    decide
  by_cases h4 : w = 237470
  · subst h4
    decide
  by_cases h5 : w = 1473549098
  · subst h5
    decide
  by_cases h6 : w = 13991
  · subst h6
    decide
  by_cases h7 : w = 9876874
  · subst h7
    decide
  by_cases h8 : w = 101329007
  · subst h8
    decide
  simp only [h0, h1, h2, h3, h4, h5, h6, h7, h8, if_false]
  decide


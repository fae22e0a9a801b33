theorem f_glueP32 : True := trivial
/-! parking: the reference -/
def dvI (n i : Nat) : Int32 := if i < n then nI i else -1
theorem dv_lt {n i : Nat} {p : Int32} (h : p = dvI n i) (c : 0 ≤ p) : i < n ∧ p = nI i := by
  unfold dvI at h
  by_cases q : i < n
  · rw [if_pos q] at h
    exact ⟨q, h⟩
  · rw [if_neg q] at h
    rw [h] at c
    exact absurd c (by decide)
theorem dv_ge {n i : Nat} {p : Int32} (hi : i ≤ 24) (h : p = dvI n i) (c : ¬ 0 ≤ p) : ¬ i < n := by
  intro q
  unfold dvI at h
  rw [if_pos q] at h
  rw [h] at c
  exact c (nI_ge0 (by omega))
theorem dv_i {n i : Nat} (h : i < n) : dvI n i = nI i := if_pos h
theorem dv_n {n i : Nat} (h : ¬ i < n) : dvI n i = -1 := if_neg h
theorem pD_y {d : SDt} {w pd pe : Int32} {i : Nat} (h : i < d.1) (c : pd ≤ nI i) : pTakeBy d w 0 i + pe + pPass d * nI i = pD d w pd pe i := by
  unfold pD
  rw [if_pos ⟨c, h⟩, ← pC_i h, Int32.add_assoc, Int32.add_comm pe, ← Int32.add_assoc, Int32.mul_comm (pPass d)]
theorem pD_z {d : SDt} {w pd pe : Int32} {i : Nat} (h : i < d.1) (c : ¬ pd ≤ nI i) : pTakeBy d w 0 i + 0 + pPass d * nI i = pD d w pd pe i := by
  unfold pD
  rw [if_neg (fun q => c q.1), ← pC_i h, Int32.add_zero, Int32.add_zero, Int32.mul_comm (pPass d)]
theorem pD_g {d : SDt} {w pd pe : Int32} {i : Nat} (h : ¬ i < d.1) (hi : i ≤ d.1) : pGar d 0 + pPass d * nI d.1 = pD d w pd pe i := by
  have e : i = d.1 := by omega
  subst e
  unfold pD
  rw [if_neg (fun q => h q.2), ← pC_n (w := w), Int32.add_zero, Int32.mul_comm (pPass d)]
theorem and_m1 {a : Nat} : nI a &&& (-1) = nI a := by
  apply Int32.toBitVec_inj.mp
  rw [Int32.toBitVec_and]
  show (nI a).toBitVec &&& BitVec.allOnes 32 = (nI a).toBitVec
  exact BitVec.and_allOnes
/-- what is left behind a car, both ways of the reference -/
theorem lf_g {n L z : Nat} {p : Int32} (hn : n ≤ 24) (hL : L < 2 ^ n) (hz : z ≤ n) (h : p = dvI n z) (c : ¬ 0 ≤ p) : nI L &&& (-1) = nI (rmv L z) := by
  have q := dv_ge (by omega) h c
  rw [show z = n by omega, rmv_n hn hL]
  exact and_m1
theorem lf_d {n L z : Nat} {p : Int32} (hn : n ≤ 24) (h : p = dvI n z) (c : 0 ≤ p) : nI L &&& (((1 : Int32) <<< (p &&& 31)) ^^^ (-1)) = nI (rmv L z) := by
  obtain ⟨q, e⟩ := dv_lt h c
  rw [e]
  exact rm_and (by omega)
theorem pl_end {n L q b : Nat} (h : b ≤ q ∨ q = n) (hb : q ≤ b ∨ q = 0) : plc n L q = plc n L b := by
  rcases h with h | h
  · rw [show q = b by omega]
  · rw [h, pl_out (Nat.lt_irrefl n), pl_out (by omega)]


set_option maxHeartbeats 4000000 in
set_option maxRecDepth 100000 in
theorem n_costAt (l : Launch) (D : va_G) (k : Nat → ClassId) (st : Nat → Nat) (lo : Nat) (a : Nat → Nat) (tx : Nat) (t0 : Nat) (we : Nat) (rd : Nat) (ru : Nat) (rw : Nat) (ca : Nat) (fp : Int32) (wd : Int64) (nu : Int32) (na : Int32) (ts : Int32) (df : Int32) (db : Int32) (sd : Int32) (dn : Nat → Nat) (se : Nat → Nat) (tm : Nat → Nat) (gs : Nat → Int32) (ffrees : Nat → Int32) (fprices : Nat → Int32) (fwalks : Nat → Int32) (sn : Nat) (cn : Nat) (pi : Nat) (pz : Int32) (hdn : ∀ j, dn j ≤ 24) (hs : sn < 3) (hcn : cn < 4) (hpi : pi ≤ dn sn) (hpz : pz = dvI (dn sn) pi) : CRi l D k st lo yX8_costAt cX8_costAt 5 (some .int) ({ frames := 3, cells := 0, slots := 0, locals := 70 }) [.ref (a 0), .int (nI sn), .int (nI cn), .int pz] [((a 0), .inr (8, (fX8 a (nI tx) fp (nI t0) wd (nI we) nu na (nI rd) ts (nI ru) (nI rw) (nI ca) df db sd))), (aI k (a 1) 3 (nF dn)), (aI k (a 4) 27 (sg se tm gs)), (aI k (a 2) 72 ffrees), (aI k (a 3) 72 fprices), (aI k (a 36) 4 fwalks)] (fun r => r = pD (sdM dn (sg se tm gs) ffrees fprices sn) (fwalks cn) df (db * 1000) pi) := by
  intro sz
  refine Met.ofW (cc := cX8_costAt) (maxL := 5) (ret := (some .int)) (by decide) rfl ?_
  intro p e s m args below meth c s₁ B hml hv
  obtain ⟨rfl, hsz, hlo, hP, hK, hDL, hZ⟩ := hv
  have hx := B.exec
  have hb := B.bytes
  have hr := B.returns
  have hts := WS_ts B.pre
  have hown : s.vm.findClass RX8 = some m.cls := findClass_of_methodNamed B.named
  have hlocks := B.notSynchronized
  subst hsz
  have hA : ∀ q : Nat, s.heap.size ≤ q → (fun q : Nat => s.heap.size ≤ q) q := fun _ h => h
  have hAlo : ∀ q : Nat, (fun q : Nat => s.heap.size ≤ q) q → lo ≤ q := fun q h => Nat.le_trans hlo h
  have hS : va_S (fun q : Nat => s.heap.size ≤ q) s.heap s.heap [] := va_S.rf
  have hl := lv_entry ([.ref (a 0), .int (nI sn), .int (nI cn), .int pz]) (n := 5) (Nat.le_of_ble_eq_true rfl)
  rw [lg_entry_eq]
  generalize (lg_sl ([.ref (a 0), .int (nI sn), .int (nI cn), .int pz]) ++ List.replicate (5 - (lg_sl ([.ref (a 0), .int (nI sn), .int (nI cn), .int pz])).length) Slot.unset).toArray = ls at hl ⊢
  have hl : lv_has ls 5 [(0, .ref (a 0)), (1, .int (nI sn)), (2, .int (nI cn)), (3, .int pz)] := hl
  have hd_9 := hdn sn
  refine lv_iload_n hx hb dX8_costAt_0 rfl (lv_at hl 3 rfl) ?_
  refine lv_if_ge (tgt := 29) hx hb dX8_costAt_1 (by decide) (fun c_1 => ?_) (fun c_1 => ?_)
  · obtain ⟨hlt_9, rfl⟩ := dv_lt hpz c_1
    refine lv_iload_n hx hb dX8_costAt_29 rfl (lv_at hl 3 rfl) ?_
    refine lv_aload_n hx hb dX8_costAt_30 rfl (lv_at hl 0 rfl) ?_
    refine va_get (D := D) (ci := 8) (v := .int df) (C := RX8) (T := TX8) (N := 44) hx hb hts inX8 hown hK hP 0 rfl rfl 37 (by decide) (hts _ tw_1010) (fun _ h9 => h9) rfl dX8_costAt_31 ?_
    refine lv_icmp_lt (tgt := 48) hx hb dX8_costAt_34 (by decide) (fun c_2 => ?_) (fun c_2 => ?_)
    · refine lv_iconst (v := 0) hx hb dX8_costAt_48 (by decide) ?_
      refine lv_istore (lv' := [(4, .int 0), (0, .ref (a 0)), (1, .int (nI sn)), (2, .int (nI cn)), (3, .int (nI pi))]) hx hb dX8_costAt_49 hl (by decide) rfl (fun ls hl => ?_)
      refine lv_aload_n hx hb dX8_costAt_51 rfl (lv_at hl 1 rfl) ?_
      refine lv_iload_n hx hb dX8_costAt_52 rfl (lv_at hl 2 rfl) ?_
      refine lv_iconst (v := 0) hx hb dX8_costAt_53 (by decide) ?_
      refine lv_iload_n hx hb dX8_costAt_54 rfl (lv_at hl 4 rfl) ?_
      refine lv_aload_n hx hb dX8_costAt_55 rfl (lv_at hl 1 rfl) ?_
      refine va_get (D := D) (ci := 8) (v := .ref (a 36)) (C := RX8) (T := TX8) (N := 44) hx hb hts inX8 hown hK hP 0 rfl rfl 35 (by decide) (hts _ tw_1008) (fun _ h9 => h9) rfl dX8_costAt_56 ?_
      refine lv_iload_n hx hb dX8_costAt_59 rfl (lv_at hl 3 rfl) ?_
      refine va_iald hx hb hK hP 5 1 rfl rfl (vp_in_nI (by omega) (by decide)) dX8_costAt_60 ?_
      refine lv_ti (y := (fwalks cn)) (by rw [nI_clamp (by omega)]) ?_
      refine ro_i (D := D) (va_runV (As := [.int (nI sn), .int 0, .int (nI pi), .int (fwalks cn)]) (rest := []) ⟨hx, hb, hml, hown, hts⟩ ((n_takingBy l D k st lo a tx t0 we rd ru rw ca fp wd nu na ts df db sd dn se tm gs fprices sn pi 0 (fwalks cn) (by first | assumption | omega) (by first | assumption | omega)) s.heap.size) (cwV 4 hts (gV tw_1226 tw_1228 tw_44 tw_87 tw_1229) rfl rfl rfl (by decide +kernel) ⟨Nat.le_of_ble_eq_true rfl, Nat.le_of_ble_eq_true rfl⟩) (pV hS hAlo hlo hP hK hDL hZ [0, 1, 2, 4] (by decide) rfl (ci := 8) (q := (RX8, TX8, 44)) (q0 := 0) rfl rfl) rfl rfl hl.1 rfl (lv_room (Nat.le_of_ble_eq_true rfl)) dX8_costAt_61 ⟨Nat.le_of_ble_eq_true rfl, Nat.le_of_ble_eq_true rfl⟩) hS hA hP (fun r_3 H locs hw_3 hP hS => ?_)
      try dsimp only at hw_3
      refine lv_iload hx hb dX8_costAt_64 (lv_at hl 0 rfl) ?_
      refine lv_iadd hx hb dX8_costAt_66 ?_
      refine lv_topi (fun x_4 ex_4 => ?_)
      refine lv_aload_n hx hb dX8_costAt_67 rfl (lv_at hl 1 rfl) ?_
      refine lv_iload_n hx hb dX8_costAt_68 rfl (lv_at hl 2 rfl) ?_
      refine lv_iconst (v := 2) hx hb dX8_costAt_69 (by decide) ?_
      refine ro_i (D := D) (va_runV (As := [.int (nI sn), .int 2]) (rest := [.int x_4]) ⟨hx, hb, hml, hown, hts⟩ ((m_of l D k st lo a tx t0 we rd ru rw ca fp wd nu na ts df db sd se tm gs sn 2 (by first | assumption | omega) (by first | assumption | omega)) H.size) (cwV 2 hts (gV tw_1194 tw_1196 tw_39 tw_87 tw_1197) rfl rfl rfl (by decide +kernel) ⟨Nat.le_of_ble_eq_true rfl, Nat.le_of_ble_eq_true rfl⟩) (pV hS hAlo hlo hP hK hDL hZ [0, 2] (by decide) rfl (ci := 8) (q := (RX8, TX8, 44)) (q0 := 0) rfl rfl) rfl rfl hl.1 rfl (lv_room (Nat.le_of_ble_eq_true rfl)) dX8_costAt_70 ⟨Nat.le_of_ble_eq_true rfl, Nat.le_of_ble_eq_true rfl⟩) hS hA hP (fun r_5 H locs hw_5 hP hS => ?_)
      try dsimp only at hw_5
      refine lv_sipush (v := 1000) hx hb dX8_costAt_73 (by decide) ?_
      refine lv_imul hx hb dX8_costAt_76 ?_
      refine lv_topi (fun x_6 ex_6 => ?_)
      refine lv_iload_n hx hb dX8_costAt_77 rfl (lv_at hl 4 rfl) ?_
      refine lv_imul hx hb dX8_costAt_78 ?_
      refine lv_topi (fun x_7 ex_7 => ?_)
      refine lv_iadd hx hb dX8_costAt_79 ?_
      refine lv_topi (fun x_8 ex_8 => ?_)
      exact W.iret (v := x_8) hx hb hr (fun t ht hW => ⟨⟨x_8, (), rfl, (by rw [ex_8, ex_7, ex_6, ex_4, hw_3, hw_5, mPass (dn := dn) (ffr := ffrees) (fpr := fprices), (show fM_takingBy dn se tm gs fprices sn pi 0 (fwalks cn) = pTakeBy (sdM dn (sg se tm gs) ffrees fprices sn) (fwalks cn) 0 pi from mTakeBy (ffr := ffrees) (r := 0) hlt_9)]; exact pD_z (d := (sdM dn (sg se tm gs) ffrees fprices sn)) hlt_9 (Int32.not_le.mpr c_2)), trivial⟩, hS.F ht⟩) hS.2.2 dX8_costAt_80
    · refine lv_aload_n hx hb dX8_costAt_37 rfl (lv_at hl 0 rfl) ?_
      refine va_get (D := D) (ci := 8) (v := .int db) (C := RX8) (T := TX8) (N := 44) hx hb hts inX8 hown hK hP 0 rfl rfl 38 (by decide) (hts _ tw_1011) (fun _ h9 => h9) rfl dX8_costAt_38 ?_
      refine lv_sipush (v := 1000) hx hb dX8_costAt_41 (by decide) ?_
      refine lv_imul hx hb dX8_costAt_44 ?_
      refine lv_topi (fun x_9 ex_9 => ?_)
      refine lv_goto (tgt := 49) hx hb dX8_costAt_45 (by decide) ?_
      refine lv_istore (lv' := [(4, .int x_9), (0, .ref (a 0)), (1, .int (nI sn)), (2, .int (nI cn)), (3, .int (nI pi))]) hx hb dX8_costAt_49 hl (by decide) rfl (fun ls hl => ?_)
      refine lv_aload_n hx hb dX8_costAt_51 rfl (lv_at hl 1 rfl) ?_
      refine lv_iload_n hx hb dX8_costAt_52 rfl (lv_at hl 2 rfl) ?_
      refine lv_iconst (v := 0) hx hb dX8_costAt_53 (by decide) ?_
      refine lv_iload_n hx hb dX8_costAt_54 rfl (lv_at hl 4 rfl) ?_
      refine lv_aload_n hx hb dX8_costAt_55 rfl (lv_at hl 1 rfl) ?_
      refine va_get (D := D) (ci := 8) (v := .ref (a 36)) (C := RX8) (T := TX8) (N := 44) hx hb hts inX8 hown hK hP 0 rfl rfl 35 (by decide) (hts _ tw_1008) (fun _ h9 => h9) rfl dX8_costAt_56 ?_
      refine lv_iload_n hx hb dX8_costAt_59 rfl (lv_at hl 3 rfl) ?_
      refine va_iald hx hb hK hP 5 1 rfl rfl (vp_in_nI (by omega) (by decide)) dX8_costAt_60 ?_
      refine lv_ti (y := (fwalks cn)) (by rw [nI_clamp (by omega)]) ?_
      refine ro_i (D := D) (va_runV (As := [.int (nI sn), .int 0, .int (nI pi), .int (fwalks cn)]) (rest := []) ⟨hx, hb, hml, hown, hts⟩ ((n_takingBy l D k st lo a tx t0 we rd ru rw ca fp wd nu na ts df db sd dn se tm gs fprices sn pi 0 (fwalks cn) (by first | assumption | omega) (by first | assumption | omega)) s.heap.size) (cwV 4 hts (gV tw_1226 tw_1228 tw_44 tw_87 tw_1229) rfl rfl rfl (by decide +kernel) ⟨Nat.le_of_ble_eq_true rfl, Nat.le_of_ble_eq_true rfl⟩) (pV hS hAlo hlo hP hK hDL hZ [0, 1, 2, 4] (by decide) rfl (ci := 8) (q := (RX8, TX8, 44)) (q0 := 0) rfl rfl) rfl rfl hl.1 rfl (lv_room (Nat.le_of_ble_eq_true rfl)) dX8_costAt_61 ⟨Nat.le_of_ble_eq_true rfl, Nat.le_of_ble_eq_true rfl⟩) hS hA hP (fun r_10 H locs hw_10 hP hS => ?_)
      try dsimp only at hw_10
      refine lv_iload hx hb dX8_costAt_64 (lv_at hl 0 rfl) ?_
      refine lv_iadd hx hb dX8_costAt_66 ?_
      refine lv_topi (fun x_11 ex_11 => ?_)
      refine lv_aload_n hx hb dX8_costAt_67 rfl (lv_at hl 1 rfl) ?_
      refine lv_iload_n hx hb dX8_costAt_68 rfl (lv_at hl 2 rfl) ?_
      refine lv_iconst (v := 2) hx hb dX8_costAt_69 (by decide) ?_
      refine ro_i (D := D) (va_runV (As := [.int (nI sn), .int 2]) (rest := [.int x_11]) ⟨hx, hb, hml, hown, hts⟩ ((m_of l D k st lo a tx t0 we rd ru rw ca fp wd nu na ts df db sd se tm gs sn 2 (by first | assumption | omega) (by first | assumption | omega)) H.size) (cwV 2 hts (gV tw_1194 tw_1196 tw_39 tw_87 tw_1197) rfl rfl rfl (by decide +kernel) ⟨Nat.le_of_ble_eq_true rfl, Nat.le_of_ble_eq_true rfl⟩) (pV hS hAlo hlo hP hK hDL hZ [0, 2] (by decide) rfl (ci := 8) (q := (RX8, TX8, 44)) (q0 := 0) rfl rfl) rfl rfl hl.1 rfl (lv_room (Nat.le_of_ble_eq_true rfl)) dX8_costAt_70 ⟨Nat.le_of_ble_eq_true rfl, Nat.le_of_ble_eq_true rfl⟩) hS hA hP (fun r_12 H locs hw_12 hP hS => ?_)
      try dsimp only at hw_12
      refine lv_sipush (v := 1000) hx hb dX8_costAt_73 (by decide) ?_
      refine lv_imul hx hb dX8_costAt_76 ?_
      refine lv_topi (fun x_13 ex_13 => ?_)
      refine lv_iload_n hx hb dX8_costAt_77 rfl (lv_at hl 4 rfl) ?_
      refine lv_imul hx hb dX8_costAt_78 ?_
      refine lv_topi (fun x_14 ex_14 => ?_)
      refine lv_iadd hx hb dX8_costAt_79 ?_
      refine lv_topi (fun x_15 ex_15 => ?_)
      exact W.iret (v := x_15) hx hb hr (fun t ht hW => ⟨⟨x_15, (), rfl, (by rw [ex_15, ex_14, ex_13, ex_11, hw_10, hw_12, ex_9, mPass (dn := dn) (ffr := ffrees) (fpr := fprices), (show fM_takingBy dn se tm gs fprices sn pi 0 (fwalks cn) = pTakeBy (sdM dn (sg se tm gs) ffrees fprices sn) (fwalks cn) 0 pi from mTakeBy (ffr := ffrees) (r := 0) hlt_9)]; exact pD_y (d := (sdM dn (sg se tm gs) ffrees fprices sn)) hlt_9 (Int32.not_lt.mp c_2)), trivial⟩, hS.F ht⟩) hS.2.2 dX8_costAt_80
  · refine lv_aload_n hx hb dX8_costAt_4 rfl (lv_at hl 0 rfl) ?_
    refine lv_iload_n hx hb dX8_costAt_5 rfl (lv_at hl 1 rfl) ?_
    refine lv_iconst (v := 0) hx hb dX8_costAt_6 (by decide) ?_
    refine ro_i (D := D) (va_runV (As := [.int (nI sn), .int 0]) (rest := []) ⟨hx, hb, hml, hown, hts⟩ ((n_garageOf l D k st lo a tx t0 we rd ru rw ca fp wd nu na ts df db sd dn se tm gs sn 0 (by first | assumption | omega)) s.heap.size) (cwV 2 hts (gV tw_1258 tw_1260 tw_51 tw_87 tw_1261) rfl rfl rfl (by decide +kernel) ⟨Nat.le_of_ble_eq_true rfl, Nat.le_of_ble_eq_true rfl⟩) (pV hS hAlo hlo hP hK hDL hZ [0, 1, 2] (by decide) rfl (ci := 8) (q := (RX8, TX8, 44)) (q0 := 0) rfl rfl) rfl rfl hl.1 rfl (lv_room (Nat.le_of_ble_eq_true rfl)) dX8_costAt_7 ⟨Nat.le_of_ble_eq_true rfl, Nat.le_of_ble_eq_true rfl⟩) hS hA hP (fun r_16 H locs hw_16 hP hS => ?_)
    try dsimp only at hw_16
    refine lv_aload_n hx hb dX8_costAt_10 rfl (lv_at hl 0 rfl) ?_
    refine lv_iload_n hx hb dX8_costAt_11 rfl (lv_at hl 1 rfl) ?_
    refine lv_iconst (v := 2) hx hb dX8_costAt_12 (by decide) ?_
    refine ro_i (D := D) (va_runV (As := [.int (nI sn), .int 2]) (rest := [.int r_16]) ⟨hx, hb, hml, hown, hts⟩ ((m_of l D k st lo a tx t0 we rd ru rw ca fp wd nu na ts df db sd se tm gs sn 2 (by first | assumption | omega) (by first | assumption | omega)) H.size) (cwV 2 hts (gV tw_1194 tw_1196 tw_39 tw_87 tw_1197) rfl rfl rfl (by decide +kernel) ⟨Nat.le_of_ble_eq_true rfl, Nat.le_of_ble_eq_true rfl⟩) (pV hS hAlo hlo hP hK hDL hZ [0, 2] (by decide) rfl (ci := 8) (q := (RX8, TX8, 44)) (q0 := 0) rfl rfl) rfl rfl hl.1 rfl (lv_room (Nat.le_of_ble_eq_true rfl)) dX8_costAt_13 ⟨Nat.le_of_ble_eq_true rfl, Nat.le_of_ble_eq_true rfl⟩) hS hA hP (fun r_17 H locs hw_17 hP hS => ?_)
    try dsimp only at hw_17
    refine lv_sipush (v := 1000) hx hb dX8_costAt_16 (by decide) ?_
    refine lv_imul hx hb dX8_costAt_19 ?_
    refine lv_topi (fun x_18 ex_18 => ?_)
    refine lv_aload_n hx hb dX8_costAt_20 rfl (lv_at hl 0 rfl) ?_
    refine va_get (D := D) (ci := 8) (v := .ref (a 1)) (C := RX8) (T := TX8) (N := 44) hx hb hts inX8 hown hK hP 0 rfl rfl 0 (by decide) (hts _ tw_973) (fun _ h9 => h9) rfl dX8_costAt_21 ?_
    refine lv_iload_n hx hb dX8_costAt_24 rfl (lv_at hl 1 rfl) ?_
    refine va_iald hx hb hK hP 1 1 rfl rfl (vp_in_nI (by omega) (by decide)) dX8_costAt_25 ?_
    refine lv_ti (y := (nI (dn sn))) (by rw [nI_clamp (by omega)]; rfl) ?_
    refine lv_imul hx hb dX8_costAt_26 ?_
    refine lv_topi (fun x_19 ex_19 => ?_)
    refine lv_iadd hx hb dX8_costAt_27 ?_
    refine lv_topi (fun x_20 ex_20 => ?_)
    exact W.iret (v := x_20) hx hb hr (fun t ht hW => ⟨⟨x_20, (), rfl, (by rw [ex_20, ex_19, ex_18, hw_16, hw_17, mPass (dn := dn) (ffr := ffrees) (fpr := fprices), (show fM_garage dn se tm gs sn 0 = pGar (sdM dn (sg se tm gs) ffrees fprices sn) 0 from mGar (r := 0))]; exact pD_g (d := (sdM dn (sg se tm gs) ffrees fprices sn)) (dv_ge (by omega) hpz c_1) hpi), trivial⟩, hS.F ht⟩) hS.2.2 dX8_costAt_28


set_option maxHeartbeats 4000000 in
set_option maxRecDepth 100000 in
theorem n_parkAll (l : Launch) (D : va_G) (k : Nat → ClassId) (st : Nat → Nat) (lo : Nat) (a : Nat → Nat) (tx : Nat) (t0 : Nat) (we : Nat) (rd : Nat) (ru : Nat) (rw : Nat) (ca : Nat) (fp : Int32) (wd : Int64) (nu : Int32) (na : Int32) (ts : Int32) (df : Int32) (db : Int32) (sd : Int32) (dn : Nat → Nat) (br : Nat → Nat) (fdoorsOf : Nat → Int32) (sn : Nat) (se9 : Nat) (hdn : ∀ j, dn j ≤ 24) (hca : ca ≤ 4) (hbr : ∀ j, br j ≤ 24) (hs : sn < 3) (hdv : dvOK fdoorsOf) (hse9 : se9 < 2 ^ dn sn) : CWv l D k st lo yX8_parkAll cX8_parkAll 6 none ({ frames := 0, cells := 0, slots := 0, locals := 0 }) 0 0 [.ref (a 0), .int (nI sn), .int (nI se9)] [((a 0), .inr (8, (fX8 a (nI tx) fp (nI t0) wd (nI we) nu na (nI rd) ts (nI ru) (nI rw) (nI ca) df db sd))), (aI k (a 1) 3 (nF dn)), (aI k (a 37) 4 (nF br)), (aI k (a 40) 4 fdoorsOf)] (fun (fdoorsOf_ : (Nat → Int32)) => (∀ k, k < ca → fdoorsOf_ k = dvI (dn sn) (plc (dn sn) (LF (dn sn) br se9 k) (br k))) ∧ dvOK fdoorsOf_) (fun (fdoorsOf_ : (Nat → Int32)) => [((a 0), .inr (8, (fX8 a (nI tx) fp (nI t0) wd (nI we) nu na (nI rd) ts (nI ru) (nI rw) (nI ca) df db sd))), (aI k (a 1) 3 (nF dn)), (aI k (a 37) 4 (nF br)), (aI k (a 40) 4 fdoorsOf_)]) := by
  intro sz
  refine Met.ofW (cc := cX8_parkAll) (maxL := 6) (ret := none) (by decide) rfl ?_
  intro p e s m args below meth c s₁ B hml hv
  obtain ⟨rfl, hsz, hlo, hP, hK, hDL, hZ⟩ := hv
  have hx := B.exec
  have hb := B.bytes
  have hr := B.returns
  have hts := WS_ts B.pre
  have hown : s.vm.findClass RX8 = some m.cls := findClass_of_methodNamed B.named
  have hlocks := B.notSynchronized
  subst hsz
  have hD := hDL.self (sz := s.heap.size)
  have hAlo := A_lo hDL hlo
  generalize hAe : va_A [((a 0), .inr (8, (fX8 a (nI tx) fp (nI t0) wd (nI we) nu na (nI rd) ts (nI ru) (nI rw) (nI ca) df db sd))), (aI k (a 1) 3 (nF dn)), (aI k (a 37) 4 (nF br)), (aI k (a 40) 4 fdoorsOf)] s.heap.size = A at hD hAlo ⊢
  have hA : ∀ q : Nat, s.heap.size ≤ q → A q := fun q h => by rw [← hAe]; exact Or.inr h
  have hS : va_S A s.heap s.heap [] := va_S.rf
  have hl := lv_entry ([.ref (a 0), .int (nI sn), .int (nI se9)]) (n := 6) (Nat.le_of_ble_eq_true rfl)
  rw [lg_entry_eq]
  generalize (lg_sl ([.ref (a 0), .int (nI sn), .int (nI se9)]) ++ List.replicate (6 - (lg_sl ([.ref (a 0), .int (nI sn), .int (nI se9)])).length) Slot.unset).toArray = ls at hl ⊢
  have hl : lv_has ls 6 [(0, .ref (a 0)), (1, .int (nI sn)), (2, .int (nI se9))] := hl
  have hd_9 := hdn sn
  have hpw_9 := pw31 hd_9
  refine lv_iload_n hx hb dX8_parkAll_0 rfl (lv_at hl 2 rfl) ?_
  refine lv_istore_n (lv' := [(3, .int (nI se9)), (0, .ref (a 0)), (1, .int (nI sn)), (2, .int (nI se9))]) hx hb dX8_parkAll_1 rfl hl (by decide) rfl (fun ls hl => ?_)
  refine lv_iconst (v := 0) hx hb dX8_parkAll_2 (by decide) ?_
  refine lv_istore (lv' := [(4, .int 0), (3, .int (nI se9)), (0, .ref (a 0)), (1, .int (nI sn)), (2, .int (nI se9))]) hx hb dX8_parkAll_3 hl (by decide) rfl (fun ls hl => ?_)
  refine W_loop (σ := Nat × Nat × (Nat → Int32)) (fun (n_ : Nat) (x_ : Nat × Nat × (Nat → Int32)) (H : Heap) (locs : List Loc) (ls : Array Slot) => match x_ with | (cq_1, lf_1, fd_1) => n_ = 5 - cq_1 ∧ ((cq_1 ≤ ca ∧ lf_1 = LF (dn sn) br se9 cq_1 ∧ lf_1 ≤ se9) ∧ (∀ k, k < cq_1 → fd_1 k = dvI (dn sn) (plc (dn sn) (LF (dn sn) br se9 k) (br k))) ∧ dvOK fd_1) ∧ va_P D classes [((a 0), .inr (8, (fX8 a (nI tx) fp (nI t0) wd (nI we) nu na (nI rd) ts (nI ru) (nI rw) (nI ca) df db sd))), (aI k (a 1) 3 (nF dn)), (aI k (a 37) 4 (nF br)), (aI k (a 40) 4 fd_1)] H ∧ va_D A [((a 0), .inr (8, (fX8 a (nI tx) fp (nI t0) wd (nI we) nu na (nI rd) ts (nI ru) (nI rw) (nI ca) df db sd))), (aI k (a 1) 3 (nF dn)), (aI k (a 37) 4 (nF br)), (aI k (a 40) 4 fd_1)] ∧ va_S A s.heap H locs ∧ lv_has ls 6 [(4, .int (nI cq_1)), (3, .int (nI lf_1)), (0, .ref (a 0)), (1, .int (nI sn)), (2, .int (nI se9))]) (fun n_1 x_1 H locs ls hI ih_1 => ?_) _ (0, se9, fdoorsOf) ⟨rfl, ⟨⟨by omega, rfl, Nat.le_refl _⟩, fun k h => absurd h (Nat.not_lt_zero k), hdv⟩, hP, hD, hS, (lv_sub hl [0, 1, 2, 3, 4] rfl)⟩
  obtain ⟨cq_1, lf_1, fd_1⟩ := x_1
  obtain ⟨hm_1, hv_1, hP, hD, hS, hl⟩ := hI
  subst hm_1
  refine lv_iload hx hb dX8_parkAll_5 (lv_at hl 0 rfl) ?_
  refine lv_aload_n hx hb dX8_parkAll_7 rfl (lv_at hl 2 rfl) ?_
  refine va_get (D := D) (ci := 8) (v := .int (nI ca)) (C := RX8) (T := TX8) (N := 44) hx hb hts inX8 hown hK hP 0 rfl rfl 34 (by decide) (hts _ tw_1007) (fun _ h9 => h9) rfl dX8_parkAll_8 ?_
  refine lv_icmp_ge (tgt := 118) hx hb dX8_parkAll_11 (by decide) (fun c_2 => ?_) (fun c_2 => ?_)
  · have c_2 := (nI_leI (a := ca) (b := cq_1) (by omega) (by omega)).mp c_2
    have hP9 := hP.sub (ws' := [((a 0), .inr (8, (fX8 a (nI tx) fp (nI t0) wd (nI we) nu na (nI rd) ts (nI ru) (nI rw) (nI ca) df db sd))), (aI k (a 1) 3 (nF dn)), (aI k (a 37) 4 (nF br)), (aI k (a 40) 4 fd_1)]) [0, 1, 2, 3] rfl
    have hD9 := hD.sub (ws' := [((a 0), .inr (8, (fX8 a (nI tx) fp (nI t0) wd (nI we) nu na (nI rd) ts (nI ru) (nI rw) (nI ca) df db sd))), (aI k (a 1) 3 (nF dn)), (aI k (a 37) 4 (nF br)), (aI k (a 40) 4 fd_1)]) [0, 1, 2, 3] (by decide) rfl
    exact W.vret hx hb hr (fun t ht hW => ⟨⟨fd_1, rfl, ⟨fun k hk => hv_1.2.1 k (by omega), hv_1.2.2⟩, by rw [ht]; exact hP9, hD9⟩, hS.F ht⟩) hS.2.2 dX8_parkAll_118
  · have c_2 : ¬ (ca ≤ cq_1) := fun h => c_2 ((nI_leI (a := ca) (b := cq_1) (by omega) (by omega)).mpr h)
    refine lv_aload_n hx hb dX8_parkAll_14 rfl (lv_at hl 2 rfl) ?_
    refine va_get (D := D) (ci := 8) (v := .ref (a 40)) (C := RX8) (T := TX8) (N := 44) hx hb hts inX8 hown hK hP 0 rfl rfl 39 (by decide) (hts _ tw_1012) (fun _ h9 => h9) rfl dX8_parkAll_15 ?_
    refine lv_iload hx hb dX8_parkAll_18 (lv_at hl 0 rfl) ?_
    refine lv_iconst (v := (-1)) hx hb dX8_parkAll_20 (by decide) ?_
    refine va_iast hx hb hK hP hD hS 3 1 rfl rfl (vp_in_nI (by omega) (by decide)) dX8_parkAll_21 (fun H locs hP hD hS => ?_)
    replace hP : va_P D classes [((a 0), .inr (8, (fX8 a (nI tx) fp (nI t0) wd (nI we) nu na (nI rd) ts (nI ru) (nI rw) (nI ca) df db sd))), (aI k (a 1) 3 (nF dn)), (aI k (a 37) 4 (nF br)), (aI k (a 40) 4 (upd fd_1 (Int32.toNatClampNeg (nI cq_1)) (-1)))] H := hP
    replace hD : va_D A [((a 0), .inr (8, (fX8 a (nI tx) fp (nI t0) wd (nI we) nu na (nI rd) ts (nI ru) (nI rw) (nI ca) df db sd))), (aI k (a 1) 3 (nF dn)), (aI k (a 37) 4 (nF br)), (aI k (a 40) 4 (upd fd_1 (Int32.toNatClampNeg (nI cq_1)) (-1)))] := hD
    rw [nI_clamp (n := cq_1) (by omega)] at hP hD
    replace hP : va_P D classes [((a 0), .inr (8, (fX8 a (nI tx) fp (nI t0) wd (nI we) nu na (nI rd) ts (nI ru) (nI rw) (nI ca) df db sd))), (aI k (a 1) 3 (nF dn)), (aI k (a 37) 4 (nF br)), (aI k (a 40) 4 (upd fd_1 cq_1 (-1)))] H := hP
    replace hD : va_D A [((a 0), .inr (8, (fX8 a (nI tx) fp (nI t0) wd (nI we) nu na (nI rd) ts (nI ru) (nI rw) (nI ca) df db sd))), (aI k (a 1) 3 (nF dn)), (aI k (a 37) 4 (nF br)), (aI k (a 40) 4 (upd fd_1 cq_1 (-1)))] := hD
    refine lv_aload_n hx hb dX8_parkAll_22 rfl (lv_at hl 2 rfl) ?_
    refine va_get (D := D) (ci := 8) (v := .ref (a 1)) (C := RX8) (T := TX8) (N := 44) hx hb hts inX8 hown hK hP 0 rfl rfl 0 (by decide) (hts _ tw_973) (fun _ h9 => h9) rfl dX8_parkAll_23 ?_
    refine lv_iload_n hx hb dX8_parkAll_26 rfl (lv_at hl 3 rfl) ?_
    refine va_iald hx hb hK hP 1 1 rfl rfl (vp_in_nI (by omega) (by decide)) dX8_parkAll_27 ?_
    refine lv_ti (y := (nI (dn sn))) (by rw [nI_clamp (by omega)]; rfl) ?_
    refine lv_iconst (v := 1) hx hb dX8_parkAll_28 (by decide) ?_
    refine lv_isub hx hb dX8_parkAll_29 ?_
    refine lv_ti (y := (nI (dn sn) - 1)) rfl ?_
    refine lv_istore (lv' := [(5, .int (nI (dn sn) - 1)), (4, .int (nI cq_1)), (3, .int (nI lf_1)), (0, .ref (a 0)), (1, .int (nI sn)), (2, .int (nI se9))]) hx hb dX8_parkAll_30 hl (by decide) rfl (fun ls hl => ?_)
    refine W_loop (σ := Nat × (Nat → Int32)) (fun (n_ : Nat) (x_ : Nat × (Nat → Int32)) (H : Heap) (locs : List Loc) (ls : Array Slot) => match x_ with | (q_4, fd2_4) => n_ = 2 * q_4 ∧ (q_4 ≤ (dn sn) ∧ (br cq_1 ≤ q_4 ∨ q_4 = (dn sn)) ∧ fd2_4 cq_1 = dvI (dn sn) (plc (dn sn) lf_1 q_4) ∧ (∀ k, k < cq_1 → fd2_4 k = dvI (dn sn) (plc (dn sn) (LF (dn sn) br se9 k) (br k))) ∧ dvOK fd2_4) ∧ va_P D classes [((a 0), .inr (8, (fX8 a (nI tx) fp (nI t0) wd (nI we) nu na (nI rd) ts (nI ru) (nI rw) (nI ca) df db sd))), (aI k (a 1) 3 (nF dn)), (aI k (a 37) 4 (nF br)), (aI k (a 40) 4 fd2_4)] H ∧ va_D A [((a 0), .inr (8, (fX8 a (nI tx) fp (nI t0) wd (nI we) nu na (nI rd) ts (nI ru) (nI rw) (nI ca) df db sd))), (aI k (a 1) 3 (nF dn)), (aI k (a 37) 4 (nF br)), (aI k (a 40) 4 fd2_4)] ∧ va_S A s.heap H locs ∧ lv_has ls 6 [(5, .int (nI q_4 - 1)), (4, .int (nI cq_1)), (3, .int (nI lf_1)), (0, .ref (a 0)), (1, .int (nI sn)), (2, .int (nI se9))]) (fun n_4 x_4 H locs ls hI ih_4 => ?_) _ (dn sn, (upd fd_1 cq_1 (-1))) ⟨rfl, ⟨by omega, .inr rfl, (by rw [pk_us, pl_out (Nat.lt_irrefl _), dv_n (Nat.lt_irrefl _)]), fun k hk => (pk_un (by omega)).trans (hv_1.2.1 k hk), dvOK_upd hv_1.2.2 _ _ (.inl (by decide))⟩, hP, hD, hS, (lv_sub hl [0, 1, 2, 3, 4, 5] rfl)⟩
    obtain ⟨q_4, fd2_4⟩ := x_4
    obtain ⟨hm_4, hv_4, hP, hD, hS, hl⟩ := hI
    subst hm_4
    rcases q_4 with _ | q_4
    · rw [dn0] at hl
      refine lv_iload hx hb dX8_parkAll_32 (lv_at hl 0 rfl) ?_
      refine lv_if_lt (tgt := 84) hx hb dX8_parkAll_34 (by decide) (fun _ => ?_) (fun h => absurd (by decide) h)
      have hfz_5 : fd2_4 cq_1 = dvI (dn sn) (plc (dn sn) lf_1 (br cq_1)) := by rw [hv_4.2.2.1, pl_end (q := 0) (b := br cq_1) hv_4.2.1 (by omega)]
      refine lv_iload_n hx hb dX8_parkAll_84 rfl (lv_at hl 2 rfl) ?_
      refine lv_aload_n hx hb dX8_parkAll_85 rfl (lv_at hl 3 rfl) ?_
      refine va_get (D := D) (ci := 8) (v := .ref (a 40)) (C := RX8) (T := TX8) (N := 44) hx hb hts inX8 hown hK hP 0 rfl rfl 39 (by decide) (hts _ tw_1012) (fun _ h9 => h9) rfl dX8_parkAll_86 ?_
      refine lv_iload hx hb dX8_parkAll_89 (lv_at hl 1 rfl) ?_
      refine va_iald hx hb hK hP 3 1 rfl rfl (vp_in_nI (by omega) (by decide)) dX8_parkAll_91 ?_
      refine lv_ti (y := (fd2_4 cq_1)) (by rw [nI_clamp (by omega)]) ?_
      refine lv_if_ge (tgt := 99) hx hb dX8_parkAll_92 (by decide) (fun c_6 => ?_) (fun c_6 => ?_)
      · refine lv_iconst (v := 1) hx hb dX8_parkAll_99 (by decide) ?_
        refine lv_aload_n hx hb dX8_parkAll_100 rfl (lv_at hl 3 rfl) ?_
        refine va_get (D := D) (ci := 8) (v := .ref (a 40)) (C := RX8) (T := TX8) (N := 44) hx hb hts inX8 hown hK hP 0 rfl rfl 39 (by decide) (hts _ tw_1012) (fun _ h9 => h9) rfl dX8_parkAll_101 ?_
        refine lv_iload hx hb dX8_parkAll_104 (lv_at hl 1 rfl) ?_
        refine va_iald hx hb hK hP 3 1 rfl rfl (vp_in_nI (by omega) (by decide)) dX8_parkAll_106 ?_
        refine lv_ti (y := (fd2_4 cq_1)) (by rw [nI_clamp (by omega)]) ?_
        refine lv_ishl hx hb dX8_parkAll_107 ?_
        refine lv_topi (fun x_7 ex_7 => ?_)
        refine lv_iconst (v := (-1)) hx hb dX8_parkAll_108 (by decide) ?_
        refine lv_ixor hx hb dX8_parkAll_109 ?_
        refine lv_topi (fun x_8 ex_8 => ?_)
        refine lv_iand hx hb dX8_parkAll_110 ?_
        refine lv_ti (y := (nI (rmv lf_1 (plc (dn sn) lf_1 (br cq_1))))) (by rw [ex_8, ex_7]; exact lf_d (n := (dn sn)) (by omega) hfz_5 c_6) ?_
        refine lv_istore_n (lv' := [(3, .int (nI (rmv lf_1 (plc (dn sn) lf_1 (br cq_1))))), (5, .int (-1)), (4, .int (nI cq_1)), (0, .ref (a 0)), (1, .int (nI sn)), (2, .int (nI se9))]) hx hb dX8_parkAll_111 rfl hl (by decide) rfl (fun ls hl => ?_)
        refine lv_iinc (v := (nI (cq_1 + 1))) (lv' := [(4, .int (nI (cq_1 + 1))), (3, .int (nI (rmv lf_1 (plc (dn sn) lf_1 (br cq_1))))), (5, .int (-1)), (0, .ref (a 0)), (1, .int (nI sn)), (2, .int (nI se9))]) hx hb dX8_parkAll_112 hl (k := 2) rfl (nI_add cq_1 1) (by decide) rfl (fun ls hl => ?_)
        refine lv_goto (tgt := 5) hx hb dX8_parkAll_115 (by decide) ?_
        exact ih_1 _ (cq_1 + 1, rmv lf_1 (plc (dn sn) lf_1 (br cq_1)), fd2_4) _ _ _ (by omega) ⟨rfl, ⟨⟨by omega, (by show _ = rmv (LF (dn sn) br se9 cq_1) (plc (dn sn) (LF (dn sn) br se9 cq_1) (br cq_1)); rw [← hv_1.1.2.1]), Nat.le_trans rmv_le hv_1.1.2.2⟩, fun k hk => by rcases (show k = cq_1 ∨ k < cq_1 by omega) with e | e; rw [e, hfz_5, hv_1.1.2.1]; exact hv_4.2.2.2.1 k e, hv_4.2.2.2.2⟩, hP, hD, hS, (lv_sub hl [0, 1, 3, 4, 5] rfl)⟩
      · refine lv_iconst (v := (-1)) hx hb dX8_parkAll_95 (by decide) ?_
        refine lv_goto (tgt := 110) hx hb dX8_parkAll_96 (by decide) ?_
        refine lv_iand hx hb dX8_parkAll_110 ?_
        refine lv_ti (y := (nI (rmv lf_1 (plc (dn sn) lf_1 (br cq_1))))) (lf_g (n := (dn sn)) (by omega) (by omega) pl_le hfz_5 c_6) ?_
        refine lv_istore_n (lv' := [(3, .int (nI (rmv lf_1 (plc (dn sn) lf_1 (br cq_1))))), (5, .int (-1)), (4, .int (nI cq_1)), (0, .ref (a 0)), (1, .int (nI sn)), (2, .int (nI se9))]) hx hb dX8_parkAll_111 rfl hl (by decide) rfl (fun ls hl => ?_)
        refine lv_iinc (v := (nI (cq_1 + 1))) (lv' := [(4, .int (nI (cq_1 + 1))), (3, .int (nI (rmv lf_1 (plc (dn sn) lf_1 (br cq_1))))), (5, .int (-1)), (0, .ref (a 0)), (1, .int (nI sn)), (2, .int (nI se9))]) hx hb dX8_parkAll_112 hl (k := 2) rfl (nI_add cq_1 1) (by decide) rfl (fun ls hl => ?_)
        refine lv_goto (tgt := 5) hx hb dX8_parkAll_115 (by decide) ?_
        exact ih_1 _ (cq_1 + 1, rmv lf_1 (plc (dn sn) lf_1 (br cq_1)), fd2_4) _ _ _ (by omega) ⟨rfl, ⟨⟨by omega, (by show _ = rmv (LF (dn sn) br se9 cq_1) (plc (dn sn) (LF (dn sn) br se9 cq_1) (br cq_1)); rw [← hv_1.1.2.1]), Nat.le_trans rmv_le hv_1.1.2.2⟩, fun k hk => by rcases (show k = cq_1 ∨ k < cq_1 by omega) with e | e; rw [e, hfz_5, hv_1.1.2.1]; exact hv_4.2.2.2.1 k e, hv_4.2.2.2.2⟩, hP, hD, hS, (lv_sub hl [0, 1, 3, 4, 5] rfl)⟩
    · rw [nI_pred] at hl
      refine lv_iload hx hb dX8_parkAll_32 (lv_at hl 0 rfl) ?_
      refine lv_if_lt (tgt := 84) hx hb dX8_parkAll_34 (by decide) (fun h => absurd h (nI_pos0 (by omega))) (fun _ => ?_)
      refine lv_iload hx hb dX8_parkAll_37 (lv_at hl 0 rfl) ?_
      refine lv_aload_n hx hb dX8_parkAll_39 rfl (lv_at hl 3 rfl) ?_
      refine va_get (D := D) (ci := 8) (v := .ref (a 37)) (C := RX8) (T := TX8) (N := 44) hx hb hts inX8 hown hK hP 0 rfl rfl 36 (by decide) (hts _ tw_1009) (fun _ h9 => h9) rfl dX8_parkAll_40 ?_
      refine lv_iload hx hb dX8_parkAll_43 (lv_at hl 1 rfl) ?_
      refine va_iald hx hb hK hP 2 1 rfl rfl (vp_in_nI (by omega) (by decide)) dX8_parkAll_45 ?_
      have hq_9 := hbr cq_1
      refine lv_ti (y := (nI (br cq_1))) (by rw [nI_clamp (by omega)]; rfl) ?_
      refine lv_icmp_lt (tgt := 84) hx hb dX8_parkAll_46 (by decide) (fun c_10 => ?_) (fun c_10 => ?_)
      · have c_10 := (nI_ltI (a := q_4) (b := (br cq_1)) (by omega) (by omega)).mp c_10
        have hfz_11 : fd2_4 cq_1 = dvI (dn sn) (plc (dn sn) lf_1 (br cq_1)) := by rw [hv_4.2.2.1, pl_end (q := (q_4 + 1)) (b := br cq_1) hv_4.2.1 (by omega)]
        refine lv_iload_n hx hb dX8_parkAll_84 rfl (lv_at hl 2 rfl) ?_
        refine lv_aload_n hx hb dX8_parkAll_85 rfl (lv_at hl 3 rfl) ?_
        refine va_get (D := D) (ci := 8) (v := .ref (a 40)) (C := RX8) (T := TX8) (N := 44) hx hb hts inX8 hown hK hP 0 rfl rfl 39 (by decide) (hts _ tw_1012) (fun _ h9 => h9) rfl dX8_parkAll_86 ?_
        refine lv_iload hx hb dX8_parkAll_89 (lv_at hl 1 rfl) ?_
        refine va_iald hx hb hK hP 3 1 rfl rfl (vp_in_nI (by omega) (by decide)) dX8_parkAll_91 ?_
        refine lv_ti (y := (fd2_4 cq_1)) (by rw [nI_clamp (by omega)]) ?_
        refine lv_if_ge (tgt := 99) hx hb dX8_parkAll_92 (by decide) (fun c_12 => ?_) (fun c_12 => ?_)
        · refine lv_iconst (v := 1) hx hb dX8_parkAll_99 (by decide) ?_
          refine lv_aload_n hx hb dX8_parkAll_100 rfl (lv_at hl 3 rfl) ?_
          refine va_get (D := D) (ci := 8) (v := .ref (a 40)) (C := RX8) (T := TX8) (N := 44) hx hb hts inX8 hown hK hP 0 rfl rfl 39 (by decide) (hts _ tw_1012) (fun _ h9 => h9) rfl dX8_parkAll_101 ?_
          refine lv_iload hx hb dX8_parkAll_104 (lv_at hl 1 rfl) ?_
          refine va_iald hx hb hK hP 3 1 rfl rfl (vp_in_nI (by omega) (by decide)) dX8_parkAll_106 ?_
          refine lv_ti (y := (fd2_4 cq_1)) (by rw [nI_clamp (by omega)]) ?_
          refine lv_ishl hx hb dX8_parkAll_107 ?_
          refine lv_topi (fun x_13 ex_13 => ?_)
          refine lv_iconst (v := (-1)) hx hb dX8_parkAll_108 (by decide) ?_
          refine lv_ixor hx hb dX8_parkAll_109 ?_
          refine lv_topi (fun x_14 ex_14 => ?_)
          refine lv_iand hx hb dX8_parkAll_110 ?_
          refine lv_ti (y := (nI (rmv lf_1 (plc (dn sn) lf_1 (br cq_1))))) (by rw [ex_14, ex_13]; exact lf_d (n := (dn sn)) (by omega) hfz_11 c_12) ?_
          refine lv_istore_n (lv' := [(3, .int (nI (rmv lf_1 (plc (dn sn) lf_1 (br cq_1))))), (5, .int (nI q_4)), (4, .int (nI cq_1)), (0, .ref (a 0)), (1, .int (nI sn)), (2, .int (nI se9))]) hx hb dX8_parkAll_111 rfl hl (by decide) rfl (fun ls hl => ?_)
          refine lv_iinc (v := (nI (cq_1 + 1))) (lv' := [(4, .int (nI (cq_1 + 1))), (3, .int (nI (rmv lf_1 (plc (dn sn) lf_1 (br cq_1))))), (5, .int (nI q_4)), (0, .ref (a 0)), (1, .int (nI sn)), (2, .int (nI se9))]) hx hb dX8_parkAll_112 hl (k := 2) rfl (nI_add cq_1 1) (by decide) rfl (fun ls hl => ?_)
          refine lv_goto (tgt := 5) hx hb dX8_parkAll_115 (by decide) ?_
          exact ih_1 _ (cq_1 + 1, rmv lf_1 (plc (dn sn) lf_1 (br cq_1)), fd2_4) _ _ _ (by omega) ⟨rfl, ⟨⟨by omega, (by show _ = rmv (LF (dn sn) br se9 cq_1) (plc (dn sn) (LF (dn sn) br se9 cq_1) (br cq_1)); rw [← hv_1.1.2.1]), Nat.le_trans rmv_le hv_1.1.2.2⟩, fun k hk => by rcases (show k = cq_1 ∨ k < cq_1 by omega) with e | e; rw [e, hfz_11, hv_1.1.2.1]; exact hv_4.2.2.2.1 k e, hv_4.2.2.2.2⟩, hP, hD, hS, (lv_sub hl [0, 1, 3, 4, 5] rfl)⟩
        · refine lv_iconst (v := (-1)) hx hb dX8_parkAll_95 (by decide) ?_
          refine lv_goto (tgt := 110) hx hb dX8_parkAll_96 (by decide) ?_
          refine lv_iand hx hb dX8_parkAll_110 ?_
          refine lv_ti (y := (nI (rmv lf_1 (plc (dn sn) lf_1 (br cq_1))))) (lf_g (n := (dn sn)) (by omega) (by omega) pl_le hfz_11 c_12) ?_
          refine lv_istore_n (lv' := [(3, .int (nI (rmv lf_1 (plc (dn sn) lf_1 (br cq_1))))), (5, .int (nI q_4)), (4, .int (nI cq_1)), (0, .ref (a 0)), (1, .int (nI sn)), (2, .int (nI se9))]) hx hb dX8_parkAll_111 rfl hl (by decide) rfl (fun ls hl => ?_)
          refine lv_iinc (v := (nI (cq_1 + 1))) (lv' := [(4, .int (nI (cq_1 + 1))), (3, .int (nI (rmv lf_1 (plc (dn sn) lf_1 (br cq_1))))), (5, .int (nI q_4)), (0, .ref (a 0)), (1, .int (nI sn)), (2, .int (nI se9))]) hx hb dX8_parkAll_112 hl (k := 2) rfl (nI_add cq_1 1) (by decide) rfl (fun ls hl => ?_)
          refine lv_goto (tgt := 5) hx hb dX8_parkAll_115 (by decide) ?_
          exact ih_1 _ (cq_1 + 1, rmv lf_1 (plc (dn sn) lf_1 (br cq_1)), fd2_4) _ _ _ (by omega) ⟨rfl, ⟨⟨by omega, (by show _ = rmv (LF (dn sn) br se9 cq_1) (plc (dn sn) (LF (dn sn) br se9 cq_1) (br cq_1)); rw [← hv_1.1.2.1]), Nat.le_trans rmv_le hv_1.1.2.2⟩, fun k hk => by rcases (show k = cq_1 ∨ k < cq_1 by omega) with e | e; rw [e, hfz_11, hv_1.1.2.1]; exact hv_4.2.2.2.1 k e, hv_4.2.2.2.2⟩, hP, hD, hS, (lv_sub hl [0, 1, 3, 4, 5] rfl)⟩
      · have c_10 : ¬ (q_4 < (br cq_1)) := fun h => c_10 ((nI_ltI (a := q_4) (b := (br cq_1)) (by omega) (by omega)).mpr h)
        refine lv_aload_n hx hb dX8_parkAll_49 rfl (lv_at hl 3 rfl) ?_
        refine va_get (D := D) (ci := 8) (v := .ref (a 40)) (C := RX8) (T := TX8) (N := 44) hx hb hts inX8 hown hK hP 0 rfl rfl 39 (by decide) (hts _ tw_1012) (fun _ h9 => h9) rfl dX8_parkAll_50 ?_
        refine lv_iload hx hb dX8_parkAll_53 (lv_at hl 1 rfl) ?_
        refine lv_iload_n hx hb dX8_parkAll_55 rfl (lv_at hl 2 rfl) ?_
        refine lv_iload hx hb dX8_parkAll_56 (lv_at hl 0 rfl) ?_
        refine lv_ishr hx hb dX8_parkAll_58 ?_
        refine lv_ti (y := (nI (lf_1 / 2 ^ q_4))) (shr24 (by omega) (by omega)) ?_
        refine lv_iconst (v := 1) hx hb dX8_parkAll_59 (by decide) ?_
        refine lv_iand hx hb dX8_parkAll_60 ?_
        refine lv_ti (y := (nI ((lf_1 / 2 ^ q_4) % 2))) and_1 ?_
        refine lv_iconst (v := 1) hx hb dX8_parkAll_61 (by decide) ?_
        refine lv_icmp_ne (tgt := 70) hx hb dX8_parkAll_62 (by decide) (fun c_15 => ?_) (fun c_15 => ?_)
        · have c_15 : ¬ (((lf_1 / 2 ^ q_4) % 2) = 1) := fun h => c_15 ((nI_eq (a := ((lf_1 / 2 ^ q_4) % 2)) (b := 1) (by omega) (by omega)).mpr h)
          refine lv_aload_n hx hb dX8_parkAll_70 rfl (lv_at hl 3 rfl) ?_
          refine va_get (D := D) (ci := 8) (v := .ref (a 40)) (C := RX8) (T := TX8) (N := 44) hx hb hts inX8 hown hK hP 0 rfl rfl 39 (by decide) (hts _ tw_1012) (fun _ h9 => h9) rfl dX8_parkAll_71 ?_
          refine lv_iload hx hb dX8_parkAll_74 (lv_at hl 1 rfl) ?_
          refine va_iald hx hb hK hP 3 1 rfl rfl (vp_in_nI (by omega) (by decide)) dX8_parkAll_76 ?_
          refine lv_ti (y := (fd2_4 cq_1)) (by rw [nI_clamp (by omega)]) ?_
          refine va_iast hx hb hK hP hD hS 3 1 rfl rfl (vp_in_nI (by omega) (by decide)) dX8_parkAll_77 (fun H locs hP hD hS => ?_)
          replace hP : va_P D classes [((a 0), .inr (8, (fX8 a (nI tx) fp (nI t0) wd (nI we) nu na (nI rd) ts (nI ru) (nI rw) (nI ca) df db sd))), (aI k (a 1) 3 (nF dn)), (aI k (a 37) 4 (nF br)), (aI k (a 40) 4 (upd fd2_4 (Int32.toNatClampNeg (nI cq_1)) (fd2_4 cq_1)))] H := hP
          replace hD : va_D A [((a 0), .inr (8, (fX8 a (nI tx) fp (nI t0) wd (nI we) nu na (nI rd) ts (nI ru) (nI rw) (nI ca) df db sd))), (aI k (a 1) 3 (nF dn)), (aI k (a 37) 4 (nF br)), (aI k (a 40) 4 (upd fd2_4 (Int32.toNatClampNeg (nI cq_1)) (fd2_4 cq_1)))] := hD
          rw [nI_clamp (n := cq_1) (by omega)] at hP hD
          replace hP : va_P D classes [((a 0), .inr (8, (fX8 a (nI tx) fp (nI t0) wd (nI we) nu na (nI rd) ts (nI ru) (nI rw) (nI ca) df db sd))), (aI k (a 1) 3 (nF dn)), (aI k (a 37) 4 (nF br)), (aI k (a 40) 4 (upd fd2_4 cq_1 (fd2_4 cq_1)))] H := hP
          replace hD : va_D A [((a 0), .inr (8, (fX8 a (nI tx) fp (nI t0) wd (nI we) nu na (nI rd) ts (nI ru) (nI rw) (nI ca) df db sd))), (aI k (a 1) 3 (nF dn)), (aI k (a 37) 4 (nF br)), (aI k (a 40) 4 (upd fd2_4 cq_1 (fd2_4 cq_1)))] := hD
          refine lv_iinc (v := (nI q_4 - 1)) (lv' := [(5, .int (nI q_4 - 1)), (4, .int (nI cq_1)), (3, .int (nI lf_1)), (0, .ref (a 0)), (1, .int (nI sn)), (2, .int (nI se9))]) hx hb dX8_parkAll_78 hl (k := 0) rfl (dn1 _) (by decide) rfl (fun ls hl => ?_)
          refine lv_goto (tgt := 32) hx hb dX8_parkAll_81 (by decide) ?_
          exact ih_4 _ (q_4, (upd fd2_4 cq_1 (fd2_4 cq_1))) _ _ _ (by omega) ⟨rfl, ⟨by omega, .inl (by omega), (by rw [pk_us, pl_n (show q_4 < (dn sn) by omega) (by omega)]; exact hv_4.2.2.1), fun k hk => (pk_un (by omega)).trans (hv_4.2.2.2.1 k hk), dvOK_upd hv_4.2.2.2.2 _ _ (hv_4.2.2.2.2 _)⟩, hP, hD, hS, (lv_sub hl [0, 1, 2, 3, 4, 5] rfl)⟩
        · have c_15 := (nI_eq (a := ((lf_1 / 2 ^ q_4) % 2)) (b := 1) (by omega) (by omega)).mp c_15
          refine lv_iload hx hb dX8_parkAll_65 (lv_at hl 0 rfl) ?_
          refine lv_goto (tgt := 77) hx hb dX8_parkAll_67 (by decide) ?_
          refine va_iast hx hb hK hP hD hS 3 1 rfl rfl (vp_in_nI (by omega) (by decide)) dX8_parkAll_77 (fun H locs hP hD hS => ?_)
          replace hP : va_P D classes [((a 0), .inr (8, (fX8 a (nI tx) fp (nI t0) wd (nI we) nu na (nI rd) ts (nI ru) (nI rw) (nI ca) df db sd))), (aI k (a 1) 3 (nF dn)), (aI k (a 37) 4 (nF br)), (aI k (a 40) 4 (upd fd2_4 (Int32.toNatClampNeg (nI cq_1)) (nI q_4)))] H := hP
          replace hD : va_D A [((a 0), .inr (8, (fX8 a (nI tx) fp (nI t0) wd (nI we) nu na (nI rd) ts (nI ru) (nI rw) (nI ca) df db sd))), (aI k (a 1) 3 (nF dn)), (aI k (a 37) 4 (nF br)), (aI k (a 40) 4 (upd fd2_4 (Int32.toNatClampNeg (nI cq_1)) (nI q_4)))] := hD
          rw [nI_clamp (n := cq_1) (by omega)] at hP hD
          replace hP : va_P D classes [((a 0), .inr (8, (fX8 a (nI tx) fp (nI t0) wd (nI we) nu na (nI rd) ts (nI ru) (nI rw) (nI ca) df db sd))), (aI k (a 1) 3 (nF dn)), (aI k (a 37) 4 (nF br)), (aI k (a 40) 4 (upd fd2_4 cq_1 (nI q_4)))] H := hP
          replace hD : va_D A [((a 0), .inr (8, (fX8 a (nI tx) fp (nI t0) wd (nI we) nu na (nI rd) ts (nI ru) (nI rw) (nI ca) df db sd))), (aI k (a 1) 3 (nF dn)), (aI k (a 37) 4 (nF br)), (aI k (a 40) 4 (upd fd2_4 cq_1 (nI q_4)))] := hD
          refine lv_iinc (v := (nI q_4 - 1)) (lv' := [(5, .int (nI q_4 - 1)), (4, .int (nI cq_1)), (3, .int (nI lf_1)), (0, .ref (a 0)), (1, .int (nI sn)), (2, .int (nI se9))]) hx hb dX8_parkAll_78 hl (k := 0) rfl (dn1 _) (by decide) rfl (fun ls hl => ?_)
          refine lv_goto (tgt := 32) hx hb dX8_parkAll_81 (by decide) ?_
          exact ih_4 _ (q_4, (upd fd2_4 cq_1 (nI q_4))) _ _ _ (by omega) ⟨rfl, ⟨by omega, .inl (by omega), (by rw [pk_us, pl_y (show q_4 < (dn sn) by omega) (by omega), dv_i (show q_4 < (dn sn) by omega)]), fun k hk => (pk_un (by omega)).trans (hv_4.2.2.2.1 k hk), dvOK_upd hv_4.2.2.2.2 _ _ (.inr ⟨q_4, by omega, rfl⟩)⟩, hP, hD, hS, (lv_sub hl [0, 1, 2, 3, 4, 5] rfl)⟩


set_option maxHeartbeats 4000000 in
set_option maxRecDepth 100000 in
theorem n_costOf (l : Launch) (D : va_G) (k : Nat → ClassId) (st : Nat → Nat) (lo : Nat) (a : Nat → Nat) (tx : Nat) (t0 : Nat) (we : Nat) (rd : Nat) (ru : Nat) (rw : Nat) (ca : Nat) (fp : Int32) (wd : Int64) (nu : Int32) (na : Int32) (ts : Int32) (df : Int32) (db : Int32) (sd : Int32) (dn : Nat → Nat) (se : Nat → Nat) (tm : Nat → Nat) (gs : Nat → Int32) (ffrees : Nat → Int32) (fprices : Nat → Int32) (fwalks : Nat → Int32) (br : Nat → Nat) (fdoorsOf : Nat → Int32) (sn : Nat) (se9 : Nat) (cn : Nat) (hdn : ∀ j, dn j ≤ 24) (hca : ca ≤ 4) (hbr : ∀ j, br j ≤ 24) (hs : sn < 3) (hcn : cn < ca) (hdv : dvOK fdoorsOf) (hse9 : se9 < 2 ^ dn sn) : CWi l D k st lo yX8_costOf cX8_costOf 4 (some .int) ({ frames := 4, cells := 0, slots := 0, locals := 94 }) 0 0 [.ref (a 0), .int (nI sn), .int (nI se9), .int (nI cn)] [((a 0), .inr (8, (fX8 a (nI tx) fp (nI t0) wd (nI we) nu na (nI rd) ts (nI ru) (nI rw) (nI ca) df db sd))), (aI k (a 1) 3 (nF dn)), (aI k (a 4) 27 (sg se tm gs)), (aI k (a 2) 72 ffrees), (aI k (a 3) 72 fprices), (aI k (a 36) 4 fwalks), (aI k (a 37) 4 (nF br)), (aI k (a 40) 4 fdoorsOf)] (fun (r : Int32) (fdoorsOf_ : (Nat → Int32)) => r = kb (dn sn) se9 (fun c i => pD (sdM dn (sg se tm gs) ffrees fprices sn) (fwalks c) df (db * 1000) i) br cn (br cn) ∧ dvOK fdoorsOf_) (fun (fdoorsOf_ : (Nat → Int32)) => [((a 0), .inr (8, (fX8 a (nI tx) fp (nI t0) wd (nI we) nu na (nI rd) ts (nI ru) (nI rw) (nI ca) df db sd))), (aI k (a 1) 3 (nF dn)), (aI k (a 4) 27 (sg se tm gs)), (aI k (a 2) 72 ffrees), (aI k (a 3) 72 fprices), (aI k (a 36) 4 fwalks), (aI k (a 37) 4 (nF br)), (aI k (a 40) 4 fdoorsOf_)]) := by
  intro sz
  refine Met.ofW (cc := cX8_costOf) (maxL := 4) (ret := (some .int)) (by decide) rfl ?_
  intro p e s m args below meth c s₁ B hml hv
  obtain ⟨rfl, hsz, hlo, hP, hK, hDL, hZ⟩ := hv
  have hx := B.exec
  have hb := B.bytes
  have hr := B.returns
  have hts := WS_ts B.pre
  have hown : s.vm.findClass RX8 = some m.cls := findClass_of_methodNamed B.named
  have hlocks := B.notSynchronized
  subst hsz
  have hD := hDL.self (sz := s.heap.size)
  have hAlo := A_lo hDL hlo
  generalize hAe : va_A [((a 0), .inr (8, (fX8 a (nI tx) fp (nI t0) wd (nI we) nu na (nI rd) ts (nI ru) (nI rw) (nI ca) df db sd))), (aI k (a 1) 3 (nF dn)), (aI k (a 4) 27 (sg se tm gs)), (aI k (a 2) 72 ffrees), (aI k (a 3) 72 fprices), (aI k (a 36) 4 fwalks), (aI k (a 37) 4 (nF br)), (aI k (a 40) 4 fdoorsOf)] s.heap.size = A at hD hAlo ⊢
  have hA : ∀ q : Nat, s.heap.size ≤ q → A q := fun q h => by rw [← hAe]; exact Or.inr h
  have hS : va_S A s.heap s.heap [] := va_S.rf
  have hl := lv_entry ([.ref (a 0), .int (nI sn), .int (nI se9), .int (nI cn)]) (n := 4) (Nat.le_of_ble_eq_true rfl)
  rw [lg_entry_eq]
  generalize (lg_sl ([.ref (a 0), .int (nI sn), .int (nI se9), .int (nI cn)]) ++ List.replicate (4 - (lg_sl ([.ref (a 0), .int (nI sn), .int (nI se9), .int (nI cn)])).length) Slot.unset).toArray = ls at hl ⊢
  have hl : lv_has ls 4 [(0, .ref (a 0)), (1, .int (nI sn)), (2, .int (nI se9)), (3, .int (nI cn))] := hl
  have hd_9 := hdn sn
  refine lv_aload_n hx hb dX8_costOf_0 rfl (lv_at hl 0 rfl) ?_
  refine lv_iload_n hx hb dX8_costOf_1 rfl (lv_at hl 1 rfl) ?_
  refine lv_iload_n hx hb dX8_costOf_2 rfl (lv_at hl 2 rfl) ?_
  refine rw_v (D := D) (wr := [(aI k (a 4) 27 (sg se tm gs)), (aI k (a 2) 72 ffrees), (aI k (a 3) 72 fprices), (aI k (a 36) 4 fwalks)]) (va_runV (As := [.int (nI sn), .int (nI se9)]) (rest := []) ⟨hx, hb, hml, hown, hts⟩ ((n_parkAll l D k st lo a tx t0 we rd ru rw ca fp wd nu na ts df db sd dn br fdoorsOf sn se9 hdn (by first | assumption | omega) hbr (by first | assumption | omega) hdv (by first | assumption | omega)) s.heap.size) (cwV 2 hts (gV tw_1398 tw_1400 tw_66 tw_87 tw_1401) rfl rfl rfl (by decide +kernel) ⟨Nat.le_of_ble_eq_true rfl, Nat.le_of_ble_eq_true rfl⟩) (pV hS hAlo hlo hP hK (va_Dlo hD hAlo) hZ [0, 1, 6, 7] (by decide) rfl (ci := 8) (q := (RX8, TX8, 44)) (q0 := 0) rfl rfl) rfl rfl hl.1 rfl (lv_room (Nat.le_of_ble_eq_true rfl)) dX8_costOf_3 ⟨Nat.le_of_ble_eq_true rfl, Nat.le_of_ble_eq_true rfl⟩) hS hA hP hD [0, 1, 6, 7] [2, 3, 4, 5] rfl rfl (by decide) (by decide) (fun u H locs hw_1 hP hD hS => ?_)
  obtain ⟨fdoorsOf__1, rfl⟩ : ∃ z, z = u := ⟨_, rfl⟩
  replace hP : va_P D classes [(aI k (a 4) 27 (sg se tm gs)), (aI k (a 2) 72 ffrees), (aI k (a 3) 72 fprices), (aI k (a 36) 4 fwalks), ((a 0), .inr (8, (fX8 a (nI tx) fp (nI t0) wd (nI we) nu na (nI rd) ts (nI ru) (nI rw) (nI ca) df db sd))), (aI k (a 1) 3 (nF dn)), (aI k (a 37) 4 (nF br)), (aI k (a 40) 4 fdoorsOf__1)] H := hP
  replace hD : va_D A [(aI k (a 4) 27 (sg se tm gs)), (aI k (a 2) 72 ffrees), (aI k (a 3) 72 fprices), (aI k (a 36) 4 fwalks), ((a 0), .inr (8, (fX8 a (nI tx) fp (nI t0) wd (nI we) nu na (nI rd) ts (nI ru) (nI rw) (nI ca) df db sd))), (aI k (a 1) 3 (nF dn)), (aI k (a 37) 4 (nF br)), (aI k (a 40) 4 fdoorsOf__1)] := hD
  try dsimp only at hw_1
  refine lv_aload_n hx hb dX8_costOf_6 rfl (lv_at hl 0 rfl) ?_
  refine lv_iload_n hx hb dX8_costOf_7 rfl (lv_at hl 1 rfl) ?_
  refine lv_iload_n hx hb dX8_costOf_8 rfl (lv_at hl 3 rfl) ?_
  refine lv_aload_n hx hb dX8_costOf_9 rfl (lv_at hl 0 rfl) ?_
  refine va_get (D := D) (ci := 8) (v := .ref (a 40)) (C := RX8) (T := TX8) (N := 44) hx hb hts inX8 hown hK hP 4 rfl rfl 39 (by decide) (hts _ tw_1012) (fun _ h9 => h9) rfl dX8_costOf_10 ?_
  refine lv_iload_n hx hb dX8_costOf_13 rfl (lv_at hl 3 rfl) ?_
  refine va_iald hx hb hK hP 7 1 rfl rfl (vp_in_nI (by omega) (by decide)) dX8_costOf_14 ?_
  refine lv_ti (y := (fdoorsOf__1 cn)) (by rw [nI_clamp (by omega)]) ?_
  refine ro_i (D := D) (va_runV (As := [.int (nI sn), .int (nI cn), .int (fdoorsOf__1 cn)]) (rest := []) ⟨hx, hb, hml, hown, hts⟩ ((n_costAt l D k st lo a tx t0 we rd ru rw ca fp wd nu na ts df db sd dn se tm gs ffrees fprices fwalks sn cn (plc (dn sn) (LF (dn sn) br se9 cn) (br cn)) (fdoorsOf__1 cn) hdn (by first | assumption | omega) (by first | assumption | omega) pl_le (hw_1.1 cn hcn)) H.size) (cwV 3 hts (gV tw_1402 tw_1404 tw_67 tw_87 tw_1405) rfl rfl rfl (by decide +kernel) ⟨Nat.le_of_ble_eq_true rfl, Nat.le_of_ble_eq_true rfl⟩) (pV hS hAlo hlo hP hK (va_Dlo hD hAlo) hZ [4, 5, 0, 1, 2, 3] (by decide) rfl (ci := 8) (q := (RX8, TX8, 44)) (q0 := 0) rfl rfl) rfl rfl hl.1 rfl (lv_room (Nat.le_of_ble_eq_true rfl)) dX8_costOf_15 ⟨Nat.le_of_ble_eq_true rfl, Nat.le_of_ble_eq_true rfl⟩) hS hA hP (fun r_2 H locs hw_2 hP hS => ?_)
  try dsimp only at hw_2
  have hP9 := hP.sub (ws' := [((a 0), .inr (8, (fX8 a (nI tx) fp (nI t0) wd (nI we) nu na (nI rd) ts (nI ru) (nI rw) (nI ca) df db sd))), (aI k (a 1) 3 (nF dn)), (aI k (a 4) 27 (sg se tm gs)), (aI k (a 2) 72 ffrees), (aI k (a 3) 72 fprices), (aI k (a 36) 4 fwalks), (aI k (a 37) 4 (nF br)), (aI k (a 40) 4 fdoorsOf__1)]) [4, 5, 0, 1, 2, 3, 6, 7] rfl
  have hD9 := hD.sub (ws' := [((a 0), .inr (8, (fX8 a (nI tx) fp (nI t0) wd (nI we) nu na (nI rd) ts (nI ru) (nI rw) (nI ca) df db sd))), (aI k (a 1) 3 (nF dn)), (aI k (a 4) 27 (sg se tm gs)), (aI k (a 2) 72 ffrees), (aI k (a 3) 72 fprices), (aI k (a 36) 4 fwalks), (aI k (a 37) 4 (nF br)), (aI k (a 40) 4 fdoorsOf__1)]) [4, 5, 0, 1, 2, 3, 6, 7] (by decide) rfl
  exact W.iret (v := r_2) hx hb hr (fun t ht hW => ⟨⟨r_2, fdoorsOf__1, rfl, ⟨hw_2, hw_1.2⟩, by rw [ht]; exact hP9, hD9⟩, hS.F ht⟩) hS.2.2 dX8_costOf_18


set_option maxHeartbeats 4000000 in
set_option maxRecDepth 100000 in
theorem n_allCosts (l : Launch) (D : va_G) (k : Nat → ClassId) (st : Nat → Nat) (lo : Nat) (a : Nat → Nat) (tx : Nat) (t0 : Nat) (we : Nat) (rd : Nat) (ru : Nat) (rw : Nat) (ca : Nat) (fp : Int32) (wd : Int64) (nu : Int32) (na : Int32) (ts : Int32) (df : Int32) (db : Int32) (sd : Int32) (dn : Nat → Nat) (se : Nat → Nat) (tm : Nat → Nat) (gs : Nat → Int32) (ffrees : Nat → Int32) (fprices : Nat → Int32) (fwalks : Nat → Int32) (br : Nat → Nat) (fdoorsOf : Nat → Int32) (sn : Nat) (se9 : Nat) (hdn : ∀ j, dn j ≤ 24) (hca : ca ≤ 4) (hbr : ∀ j, br j ≤ 24) (hs : sn < 3) (hdv : dvOK fdoorsOf) (hse9 : se9 < 2 ^ dn sn) : CWi l D k st lo yX8_allCosts cX8_allCosts 5 (some .int) ({ frames := 4, cells := 0, slots := 0, locals := 94 }) 0 0 [.ref (a 0), .int (nI sn), .int (nI se9)] [((a 0), .inr (8, (fX8 a (nI tx) fp (nI t0) wd (nI we) nu na (nI rd) ts (nI ru) (nI rw) (nI ca) df db sd))), (aI k (a 1) 3 (nF dn)), (aI k (a 4) 27 (sg se tm gs)), (aI k (a 2) 72 ffrees), (aI k (a 3) 72 fprices), (aI k (a 36) 4 fwalks), (aI k (a 37) 4 (nF br)), (aI k (a 40) 4 fdoorsOf)] (fun (r : Int32) (fdoorsOf_ : (Nat → Int32)) => r = smF (dn sn) se9 (fun c i => pD (sdM dn (sg se tm gs) ffrees fprices sn) (fwalks c) df (db * 1000) i) br ca ∧ dvOK fdoorsOf_) (fun (fdoorsOf_ : (Nat → Int32)) => [((a 0), .inr (8, (fX8 a (nI tx) fp (nI t0) wd (nI we) nu na (nI rd) ts (nI ru) (nI rw) (nI ca) df db sd))), (aI k (a 1) 3 (nF dn)), (aI k (a 4) 27 (sg se tm gs)), (aI k (a 2) 72 ffrees), (aI k (a 3) 72 fprices), (aI k (a 36) 4 fwalks), (aI k (a 37) 4 (nF br)), (aI k (a 40) 4 fdoorsOf_)]) := by
  intro sz
  refine Met.ofW (cc := cX8_allCosts) (maxL := 5) (ret := (some .int)) (by decide) rfl ?_
  intro p e s m args below meth c s₁ B hml hv
  obtain ⟨rfl, hsz, hlo, hP, hK, hDL, hZ⟩ := hv
  have hx := B.exec
  have hb := B.bytes
  have hr := B.returns
  have hts := WS_ts B.pre
  have hown : s.vm.findClass RX8 = some m.cls := findClass_of_methodNamed B.named
  have hlocks := B.notSynchronized
  subst hsz
  have hD := hDL.self (sz := s.heap.size)
  have hAlo := A_lo hDL hlo
  generalize hAe : va_A [((a 0), .inr (8, (fX8 a (nI tx) fp (nI t0) wd (nI we) nu na (nI rd) ts (nI ru) (nI rw) (nI ca) df db sd))), (aI k (a 1) 3 (nF dn)), (aI k (a 4) 27 (sg se tm gs)), (aI k (a 2) 72 ffrees), (aI k (a 3) 72 fprices), (aI k (a 36) 4 fwalks), (aI k (a 37) 4 (nF br)), (aI k (a 40) 4 fdoorsOf)] s.heap.size = A at hD hAlo ⊢
  have hA : ∀ q : Nat, s.heap.size ≤ q → A q := fun q h => by rw [← hAe]; exact Or.inr h
  have hS : va_S A s.heap s.heap [] := va_S.rf
  have hl := lv_entry ([.ref (a 0), .int (nI sn), .int (nI se9)]) (n := 5) (Nat.le_of_ble_eq_true rfl)
  rw [lg_entry_eq]
  generalize (lg_sl ([.ref (a 0), .int (nI sn), .int (nI se9)]) ++ List.replicate (5 - (lg_sl ([.ref (a 0), .int (nI sn), .int (nI se9)])).length) Slot.unset).toArray = ls at hl ⊢
  have hl : lv_has ls 5 [(0, .ref (a 0)), (1, .int (nI sn)), (2, .int (nI se9))] := hl
  have hd_9 := hdn sn
  refine lv_aload_n hx hb dX8_allCosts_0 rfl (lv_at hl 0 rfl) ?_
  refine lv_iload_n hx hb dX8_allCosts_1 rfl (lv_at hl 1 rfl) ?_
  refine lv_iload_n hx hb dX8_allCosts_2 rfl (lv_at hl 2 rfl) ?_
  refine rw_v (D := D) (wr := [(aI k (a 4) 27 (sg se tm gs)), (aI k (a 2) 72 ffrees), (aI k (a 3) 72 fprices), (aI k (a 36) 4 fwalks)]) (va_runV (As := [.int (nI sn), .int (nI se9)]) (rest := []) ⟨hx, hb, hml, hown, hts⟩ ((n_parkAll l D k st lo a tx t0 we rd ru rw ca fp wd nu na ts df db sd dn br fdoorsOf sn se9 hdn (by first | assumption | omega) hbr (by first | assumption | omega) hdv (by first | assumption | omega)) s.heap.size) (cwV 2 hts (gV tw_1398 tw_1400 tw_66 tw_87 tw_1401) rfl rfl rfl (by decide +kernel) ⟨Nat.le_of_ble_eq_true rfl, Nat.le_of_ble_eq_true rfl⟩) (pV hS hAlo hlo hP hK (va_Dlo hD hAlo) hZ [0, 1, 6, 7] (by decide) rfl (ci := 8) (q := (RX8, TX8, 44)) (q0 := 0) rfl rfl) rfl rfl hl.1 rfl (lv_room (Nat.le_of_ble_eq_true rfl)) dX8_allCosts_3 ⟨Nat.le_of_ble_eq_true rfl, Nat.le_of_ble_eq_true rfl⟩) hS hA hP hD [0, 1, 6, 7] [2, 3, 4, 5] rfl rfl (by decide) (by decide) (fun u H locs hw_1 hP hD hS => ?_)
  obtain ⟨fdoorsOf__1, rfl⟩ : ∃ z, z = u := ⟨_, rfl⟩
  replace hP : va_P D classes [(aI k (a 4) 27 (sg se tm gs)), (aI k (a 2) 72 ffrees), (aI k (a 3) 72 fprices), (aI k (a 36) 4 fwalks), ((a 0), .inr (8, (fX8 a (nI tx) fp (nI t0) wd (nI we) nu na (nI rd) ts (nI ru) (nI rw) (nI ca) df db sd))), (aI k (a 1) 3 (nF dn)), (aI k (a 37) 4 (nF br)), (aI k (a 40) 4 fdoorsOf__1)] H := hP
  replace hD : va_D A [(aI k (a 4) 27 (sg se tm gs)), (aI k (a 2) 72 ffrees), (aI k (a 3) 72 fprices), (aI k (a 36) 4 fwalks), ((a 0), .inr (8, (fX8 a (nI tx) fp (nI t0) wd (nI we) nu na (nI rd) ts (nI ru) (nI rw) (nI ca) df db sd))), (aI k (a 1) 3 (nF dn)), (aI k (a 37) 4 (nF br)), (aI k (a 40) 4 fdoorsOf__1)] := hD
  try dsimp only at hw_1
  refine lv_iconst (v := 0) hx hb dX8_allCosts_6 (by decide) ?_
  refine lv_istore_n (lv' := [(3, .int 0), (0, .ref (a 0)), (1, .int (nI sn)), (2, .int (nI se9))]) hx hb dX8_allCosts_7 rfl hl (by decide) rfl (fun ls hl => ?_)
  refine lv_iconst (v := 0) hx hb dX8_allCosts_8 (by decide) ?_
  refine lv_istore (lv' := [(4, .int 0), (3, .int 0), (0, .ref (a 0)), (1, .int (nI sn)), (2, .int (nI se9))]) hx hb dX8_allCosts_9 hl (by decide) rfl (fun ls hl => ?_)
  refine W_loop (σ := Nat × Int32) (fun (n_ : Nat) (x_ : Nat × Int32) (H : Heap) (locs : List Loc) (ls : Array Slot) => match x_ with | (cq_2, su_2) => n_ = 5 - cq_2 ∧ (cq_2 ≤ ca ∧ su_2 = smF (dn sn) se9 (fun c i => pD (sdM dn (sg se tm gs) ffrees fprices sn) (fwalks c) df (db * 1000) i) br cq_2) ∧ va_P D classes [(aI k (a 4) 27 (sg se tm gs)), (aI k (a 2) 72 ffrees), (aI k (a 3) 72 fprices), (aI k (a 36) 4 fwalks), ((a 0), .inr (8, (fX8 a (nI tx) fp (nI t0) wd (nI we) nu na (nI rd) ts (nI ru) (nI rw) (nI ca) df db sd))), (aI k (a 1) 3 (nF dn)), (aI k (a 37) 4 (nF br)), (aI k (a 40) 4 fdoorsOf__1)] H ∧ va_D A [(aI k (a 4) 27 (sg se tm gs)), (aI k (a 2) 72 ffrees), (aI k (a 3) 72 fprices), (aI k (a 36) 4 fwalks), ((a 0), .inr (8, (fX8 a (nI tx) fp (nI t0) wd (nI we) nu na (nI rd) ts (nI ru) (nI rw) (nI ca) df db sd))), (aI k (a 1) 3 (nF dn)), (aI k (a 37) 4 (nF br)), (aI k (a 40) 4 fdoorsOf__1)] ∧ va_S A s.heap H locs ∧ lv_has ls 5 [(4, .int (nI cq_2)), (3, .int su_2), (0, .ref (a 0)), (1, .int (nI sn)), (2, .int (nI se9))]) (fun n_2 x_2 H locs ls hI ih_2 => ?_) _ (0, 0) ⟨rfl, ⟨by omega, rfl⟩, hP, hD, hS, (lv_sub hl [0, 1, 2, 3, 4] rfl)⟩
  obtain ⟨cq_2, su_2⟩ := x_2
  obtain ⟨hm_2, hv_2, hP, hD, hS, hl⟩ := hI
  subst hm_2
  refine lv_iload hx hb dX8_allCosts_11 (lv_at hl 0 rfl) ?_
  refine lv_aload_n hx hb dX8_allCosts_13 rfl (lv_at hl 2 rfl) ?_
  refine va_get (D := D) (ci := 8) (v := .int (nI ca)) (C := RX8) (T := TX8) (N := 44) hx hb hts inX8 hown hK hP 4 rfl rfl 34 (by decide) (hts _ tw_1007) (fun _ h9 => h9) rfl dX8_allCosts_14 ?_
  refine lv_icmp_ge (tgt := 43) hx hb dX8_allCosts_17 (by decide) (fun c_3 => ?_) (fun c_3 => ?_)
  · have c_3 := (nI_leI (a := ca) (b := cq_2) (by omega) (by omega)).mp c_3
    refine lv_iload_n hx hb dX8_allCosts_43 rfl (lv_at hl 1 rfl) ?_
    have hP9 := hP.sub (ws' := [((a 0), .inr (8, (fX8 a (nI tx) fp (nI t0) wd (nI we) nu na (nI rd) ts (nI ru) (nI rw) (nI ca) df db sd))), (aI k (a 1) 3 (nF dn)), (aI k (a 4) 27 (sg se tm gs)), (aI k (a 2) 72 ffrees), (aI k (a 3) 72 fprices), (aI k (a 36) 4 fwalks), (aI k (a 37) 4 (nF br)), (aI k (a 40) 4 fdoorsOf__1)]) [4, 5, 0, 1, 2, 3, 6, 7] rfl
    have hD9 := hD.sub (ws' := [((a 0), .inr (8, (fX8 a (nI tx) fp (nI t0) wd (nI we) nu na (nI rd) ts (nI ru) (nI rw) (nI ca) df db sd))), (aI k (a 1) 3 (nF dn)), (aI k (a 4) 27 (sg se tm gs)), (aI k (a 2) 72 ffrees), (aI k (a 3) 72 fprices), (aI k (a 36) 4 fwalks), (aI k (a 37) 4 (nF br)), (aI k (a 40) 4 fdoorsOf__1)]) [4, 5, 0, 1, 2, 3, 6, 7] (by decide) rfl
    exact W.iret (v := su_2) hx hb hr (fun t ht hW => ⟨⟨su_2, fdoorsOf__1, rfl, ⟨(by rw [hv_2.2, show cq_2 = ca by omega]), hw_1.2⟩, by rw [ht]; exact hP9, hD9⟩, hS.F ht⟩) hS.2.2 dX8_allCosts_44
  · have c_3 : ¬ (ca ≤ cq_2) := fun h => c_3 ((nI_leI (a := ca) (b := cq_2) (by omega) (by omega)).mpr h)
    refine lv_iload_n hx hb dX8_allCosts_20 rfl (lv_at hl 1 rfl) ?_
    refine lv_aload_n hx hb dX8_allCosts_21 rfl (lv_at hl 2 rfl) ?_
    refine lv_iload_n hx hb dX8_allCosts_22 rfl (lv_at hl 3 rfl) ?_
    refine lv_iload hx hb dX8_allCosts_23 (lv_at hl 0 rfl) ?_
    refine lv_aload_n hx hb dX8_allCosts_25 rfl (lv_at hl 2 rfl) ?_
    refine va_get (D := D) (ci := 8) (v := .ref (a 40)) (C := RX8) (T := TX8) (N := 44) hx hb hts inX8 hown hK hP 4 rfl rfl 39 (by decide) (hts _ tw_1012) (fun _ h9 => h9) rfl dX8_allCosts_26 ?_
    refine lv_iload hx hb dX8_allCosts_29 (lv_at hl 0 rfl) ?_
    refine va_iald hx hb hK hP 7 1 rfl rfl (vp_in_nI (by omega) (by decide)) dX8_allCosts_31 ?_
    refine lv_ti (y := (fdoorsOf__1 cq_2)) (by rw [nI_clamp (by omega)]) ?_
    refine ro_i (D := D) (va_runV (As := [.int (nI sn), .int (nI cq_2), .int (fdoorsOf__1 cq_2)]) (rest := [.int su_2]) ⟨hx, hb, hml, hown, hts⟩ ((n_costAt l D k st lo a tx t0 we rd ru rw ca fp wd nu na ts df db sd dn se tm gs ffrees fprices fwalks sn cq_2 (plc (dn sn) (LF (dn sn) br se9 cq_2) (br cq_2)) (fdoorsOf__1 cq_2) hdn (by first | assumption | omega) (by first | assumption | omega) pl_le (hw_1.1 cq_2 (by omega))) H.size) (cwV 3 hts (gV tw_1402 tw_1404 tw_67 tw_87 tw_1405) rfl rfl rfl (by decide +kernel) ⟨Nat.le_of_ble_eq_true rfl, Nat.le_of_ble_eq_true rfl⟩) (pV hS hAlo hlo hP hK (va_Dlo hD hAlo) hZ [4, 5, 0, 1, 2, 3] (by decide) rfl (ci := 8) (q := (RX8, TX8, 44)) (q0 := 0) rfl rfl) rfl rfl hl.1 rfl (lv_room (Nat.le_of_ble_eq_true rfl)) dX8_allCosts_32 ⟨Nat.le_of_ble_eq_true rfl, Nat.le_of_ble_eq_true rfl⟩) hS hA hP (fun r_4 H locs hw_4 hP hS => ?_)
    try dsimp only at hw_4
    refine lv_iadd hx hb dX8_allCosts_35 ?_
    refine lv_topi (fun x_5 ex_5 => ?_)
    refine lv_istore_n (lv' := [(3, .int x_5), (4, .int (nI cq_2)), (0, .ref (a 0)), (1, .int (nI sn)), (2, .int (nI se9))]) hx hb dX8_allCosts_36 rfl hl (by decide) rfl (fun ls hl => ?_)
    refine lv_iinc (v := (nI (cq_2 + 1))) (lv' := [(4, .int (nI (cq_2 + 1))), (3, .int x_5), (0, .ref (a 0)), (1, .int (nI sn)), (2, .int (nI se9))]) hx hb dX8_allCosts_37 hl (k := 1) rfl (nI_add cq_2 1) (by decide) rfl (fun ls hl => ?_)
    refine lv_goto (tgt := 11) hx hb dX8_allCosts_40 (by decide) ?_
    exact ih_2 _ (cq_2 + 1, x_5) _ _ _ (by omega) ⟨rfl, ⟨by omega, (by rw [ex_5, hw_4, hv_2.2]; rfl)⟩, hP, hD, hS, (lv_sub hl [0, 1, 2, 3, 4] rfl)⟩


set_option maxHeartbeats 4000000 in
set_option maxRecDepth 100000 in
theorem n_bestBar (l : Launch) (D : va_G) (k : Nat → ClassId) (st : Nat → Nat) (lo : Nat) (a : Nat → Nat) (tx : Nat) (t0 : Nat) (we : Nat) (rd : Nat) (ru : Nat) (rw : Nat) (ca : Nat) (fp : Int32) (wd : Int64) (nu : Int32) (na : Int32) (ts : Int32) (df : Int32) (db : Int32) (sd : Int32) (dn : Nat → Nat) (se : Nat → Nat) (tm : Nat → Nat) (gs : Nat → Int32) (ffrees : Nat → Int32) (fprices : Nat → Int32) (fwalks : Nat → Int32) (br : Nat → Nat) (fdoorsOf : Nat → Int32) (sn : Nat) (se9 : Nat) (cn : Nat) (hdn : ∀ j, dn j ≤ 24) (hca : ca ≤ 4) (hbr : ∀ j, br j ≤ 24) (hs : sn < 3) (hcn : cn < ca) (hdv : dvOK fdoorsOf) (hse9 : se9 < 2 ^ dn sn) (hob : br cn ≤ dn sn) : CWi l D k st lo yX8_bestBar cX8_bestBar 9 (some .int) ({ frames := 5, cells := 0, slots := 0, locals := 117 }) 0 0 [.ref (a 0), .int (nI sn), .int (nI se9), .int (nI cn)] [((a 0), .inr (8, (fX8 a (nI tx) fp (nI t0) wd (nI we) nu na (nI rd) ts (nI ru) (nI rw) (nI ca) df db sd))), (aI k (a 1) 3 (nF dn)), (aI k (a 4) 27 (sg se tm gs)), (aI k (a 2) 72 ffrees), (aI k (a 3) 72 fprices), (aI k (a 36) 4 fwalks), (aI k (a 37) 4 (nF br)), (aI k (a 40) 4 fdoorsOf)] (fun (r : Int32) (u : (Nat → Nat) × (Nat → Int32) × Nat) => match u with | (br_, fdoorsOf_, er) => r = nI er ∧ er = bsF (dn sn) (kb (dn sn) se9 (fun c i => pD (sdM dn (sg se tm gs) ffrees fprices sn) (fwalks c) df (db * 1000) i) br cn) (br cn) ∧ (∀ j, br_ j = br j) ∧ (∀ j, br_ j ≤ 24) ∧ dvOK fdoorsOf_) (fun (u : (Nat → Nat) × (Nat → Int32) × Nat) => match u with | (br_, fdoorsOf_, er) => [((a 0), .inr (8, (fX8 a (nI tx) fp (nI t0) wd (nI we) nu na (nI rd) ts (nI ru) (nI rw) (nI ca) df db sd))), (aI k (a 1) 3 (nF dn)), (aI k (a 4) 27 (sg se tm gs)), (aI k (a 2) 72 ffrees), (aI k (a 3) 72 fprices), (aI k (a 36) 4 fwalks), (aI k (a 37) 4 (nF br_)), (aI k (a 40) 4 fdoorsOf_)]) := by
  intro sz
  refine Met.ofW (cc := cX8_bestBar) (maxL := 9) (ret := (some .int)) (by decide) rfl ?_
  intro p e s m args below meth c s₁ B hml hv
  obtain ⟨rfl, hsz, hlo, hP, hK, hDL, hZ⟩ := hv
  have hx := B.exec
  have hb := B.bytes
  have hr := B.returns
  have hts := WS_ts B.pre
  have hown : s.vm.findClass RX8 = some m.cls := findClass_of_methodNamed B.named
  have hlocks := B.notSynchronized
  subst hsz
  have hD := hDL.self (sz := s.heap.size)
  have hAlo := A_lo hDL hlo
  generalize hAe : va_A [((a 0), .inr (8, (fX8 a (nI tx) fp (nI t0) wd (nI we) nu na (nI rd) ts (nI ru) (nI rw) (nI ca) df db sd))), (aI k (a 1) 3 (nF dn)), (aI k (a 4) 27 (sg se tm gs)), (aI k (a 2) 72 ffrees), (aI k (a 3) 72 fprices), (aI k (a 36) 4 fwalks), (aI k (a 37) 4 (nF br)), (aI k (a 40) 4 fdoorsOf)] s.heap.size = A at hD hAlo ⊢
  have hA : ∀ q : Nat, s.heap.size ≤ q → A q := fun q h => by rw [← hAe]; exact Or.inr h
  have hS : va_S A s.heap s.heap [] := va_S.rf
  have hl := lv_entry ([.ref (a 0), .int (nI sn), .int (nI se9), .int (nI cn)]) (n := 9) (Nat.le_of_ble_eq_true rfl)
  rw [lg_entry_eq]
  generalize (lg_sl ([.ref (a 0), .int (nI sn), .int (nI se9), .int (nI cn)]) ++ List.replicate (9 - (lg_sl ([.ref (a 0), .int (nI sn), .int (nI se9), .int (nI cn)])).length) Slot.unset).toArray = ls at hl ⊢
  have hl : lv_has ls 9 [(0, .ref (a 0)), (1, .int (nI sn)), (2, .int (nI se9)), (3, .int (nI cn))] := hl
  have hd_9 := hdn sn
  refine lv_aload_n hx hb dX8_bestBar_0 rfl (lv_at hl 0 rfl) ?_
  refine va_get (D := D) (ci := 8) (v := .ref (a 37)) (C := RX8) (T := TX8) (N := 44) hx hb hts inX8 hown hK hP 0 rfl rfl 36 (by decide) (hts _ tw_1009) (fun _ h9 => h9) rfl dX8_bestBar_1 ?_
  refine lv_iload_n hx hb dX8_bestBar_4 rfl (lv_at hl 3 rfl) ?_
  refine va_iald hx hb hK hP 6 1 rfl rfl (vp_in_nI (by omega) (by decide)) dX8_bestBar_5 ?_
  have hq_1 := hbr cn
  refine lv_ti (y := (nI (br cn))) (by rw [nI_clamp (by omega)]; rfl) ?_
  refine lv_istore (lv' := [(4, .int (nI (br cn))), (0, .ref (a 0)), (1, .int (nI sn)), (2, .int (nI se9)), (3, .int (nI cn))]) hx hb dX8_bestBar_6 hl (by decide) rfl (fun ls hl => ?_)
  refine lv_iload hx hb dX8_bestBar_8 (lv_at hl 0 rfl) ?_
  refine lv_istore (lv' := [(5, .int (nI (br cn))), (4, .int (nI (br cn))), (0, .ref (a 0)), (1, .int (nI sn)), (2, .int (nI se9)), (3, .int (nI cn))]) hx hb dX8_bestBar_10 hl (by decide) rfl (fun ls hl => ?_)
  refine lv_aload_n hx hb dX8_bestBar_12 rfl (lv_at hl 2 rfl) ?_
  refine lv_iload_n hx hb dX8_bestBar_13 rfl (lv_at hl 3 rfl) ?_
  refine lv_iload_n hx hb dX8_bestBar_14 rfl (lv_at hl 4 rfl) ?_
  refine lv_iload_n hx hb dX8_bestBar_15 rfl (lv_at hl 5 rfl) ?_
  refine rw_i (D := D) (wr := []) (va_runV (As := [.int (nI sn), .int (nI se9), .int (nI cn)]) (rest := []) ⟨hx, hb, hml, hown, hts⟩ ((n_costOf l D k st lo a tx t0 we rd ru rw ca fp wd nu na ts df db sd dn se tm gs ffrees fprices fwalks br fdoorsOf sn se9 cn hdn (by first | assumption | omega) hbr (by first | assumption | omega) (by first | assumption | omega) hdv (by first | assumption | omega)) s.heap.size) (cwV 3 hts (gV tw_1394 tw_1396 tw_65 tw_87 tw_1397) rfl rfl rfl (by decide +kernel) ⟨Nat.le_of_ble_eq_true rfl, Nat.le_of_ble_eq_true rfl⟩) (pV hS hAlo hlo hP hK (va_Dlo hD hAlo) hZ [0, 1, 2, 3, 4, 5, 6, 7] (by decide) rfl (ci := 8) (q := (RX8, TX8, 44)) (q0 := 0) rfl rfl) rfl rfl hl.1 rfl (lv_room (Nat.le_of_ble_eq_true rfl)) dX8_bestBar_16 ⟨Nat.le_of_ble_eq_true rfl, Nat.le_of_ble_eq_true rfl⟩) hS hA hP hD [0, 1, 2, 3, 4, 5, 6, 7] [] rfl rfl (by decide) (by decide) (fun r_2 u H locs hw_2 hP hD hS => ?_)
  obtain ⟨fdoorsOf__2, rfl⟩ : ∃ z, z = u := ⟨_, rfl⟩
  replace hP : va_P D classes [((a 0), .inr (8, (fX8 a (nI tx) fp (nI t0) wd (nI we) nu na (nI rd) ts (nI ru) (nI rw) (nI ca) df db sd))), (aI k (a 1) 3 (nF dn)), (aI k (a 4) 27 (sg se tm gs)), (aI k (a 2) 72 ffrees), (aI k (a 3) 72 fprices), (aI k (a 36) 4 fwalks), (aI k (a 37) 4 (nF br)), (aI k (a 40) 4 fdoorsOf__2)] H := hP
  replace hD : va_D A [((a 0), .inr (8, (fX8 a (nI tx) fp (nI t0) wd (nI we) nu na (nI rd) ts (nI ru) (nI rw) (nI ca) df db sd))), (aI k (a 1) 3 (nF dn)), (aI k (a 4) 27 (sg se tm gs)), (aI k (a 2) 72 ffrees), (aI k (a 3) 72 fprices), (aI k (a 36) 4 fwalks), (aI k (a 37) 4 (nF br)), (aI k (a 40) 4 fdoorsOf__2)] := hD
  try dsimp only at hw_2
  refine lv_istore (lv' := [(6, .int r_2), (5, .int (nI (br cn))), (4, .int (nI (br cn))), (0, .ref (a 0)), (1, .int (nI sn)), (2, .int (nI se9)), (3, .int (nI cn))]) hx hb dX8_bestBar_19 hl (by decide) rfl (fun ls hl => ?_)
  refine lv_iconst (v := 0) hx hb dX8_bestBar_21 (by decide) ?_
  refine lv_istore (lv' := [(7, .int 0), (6, .int r_2), (5, .int (nI (br cn))), (4, .int (nI (br cn))), (0, .ref (a 0)), (1, .int (nI sn)), (2, .int (nI se9)), (3, .int (nI cn))]) hx hb dX8_bestBar_22 hl (by decide) rfl (fun ls hl => ?_)
  refine W_loop (σ := Nat × Nat × Int32 × (Nat → Nat) × (Nat → Int32)) (fun (n_ : Nat) (x_ : Nat × Nat × Int32 × (Nat → Nat) × (Nat → Int32)) (H : Heap) (locs : List Loc) (ls : Array Slot) => match x_ with | (bb_3, be_3, le_3, b2_3, fd_3) => n_ = 26 - bb_3 ∧ (bb_3 ≤ (dn sn) + 1 ∧ be_3 ≤ (dn sn) ∧ bmI (kb (dn sn) se9 (fun c i => pD (sdM dn (sg se tm gs) ffrees fprices sn) (fwalks c) df (db * 1000) i) br cn) (br cn) bb_3 be_3 le_3 ∧ (∀ j, ¬ j = cn → b2_3 j = br j) ∧ (∀ j, b2_3 j ≤ 24) ∧ dvOK fd_3) ∧ va_P D classes [((a 0), .inr (8, (fX8 a (nI tx) fp (nI t0) wd (nI we) nu na (nI rd) ts (nI ru) (nI rw) (nI ca) df db sd))), (aI k (a 1) 3 (nF dn)), (aI k (a 4) 27 (sg se tm gs)), (aI k (a 2) 72 ffrees), (aI k (a 3) 72 fprices), (aI k (a 36) 4 fwalks), (aI k (a 37) 4 (nF b2_3)), (aI k (a 40) 4 fd_3)] H ∧ va_D A [((a 0), .inr (8, (fX8 a (nI tx) fp (nI t0) wd (nI we) nu na (nI rd) ts (nI ru) (nI rw) (nI ca) df db sd))), (aI k (a 1) 3 (nF dn)), (aI k (a 4) 27 (sg se tm gs)), (aI k (a 2) 72 ffrees), (aI k (a 3) 72 fprices), (aI k (a 36) 4 fwalks), (aI k (a 37) 4 (nF b2_3)), (aI k (a 40) 4 fd_3)] ∧ va_S A s.heap H locs ∧ lv_has ls 9 [(7, .int (nI bb_3)), (6, .int le_3), (5, .int (nI be_3)), (4, .int (nI (br cn))), (0, .ref (a 0)), (1, .int (nI sn)), (2, .int (nI se9)), (3, .int (nI cn))]) (fun n_3 x_3 H locs ls hI ih_3 => ?_) _ (0, br cn, r_2, br, fdoorsOf__2) ⟨rfl, ⟨by omega, hob, bm_0 hw_2.1, fun _ _ => rfl, hbr, hw_2.2⟩, hP, hD, hS, (lv_sub hl [0, 1, 2, 3, 4, 5, 6, 7] rfl)⟩
  obtain ⟨bb_3, be_3, le_3, b2_3, fd_3⟩ := x_3
  obtain ⟨hm_3, hv_3, hP, hD, hS, hl⟩ := hI
  subst hm_3
  have hbl_3 := hv_3.2.2.2.2.1
  have hdvl_3 := hv_3.2.2.2.2.2
  refine lv_iload hx hb dX8_bestBar_24 (lv_at hl 0 rfl) ?_
  refine lv_aload_n hx hb dX8_bestBar_26 rfl (lv_at hl 4 rfl) ?_
  refine va_get (D := D) (ci := 8) (v := .ref (a 1)) (C := RX8) (T := TX8) (N := 44) hx hb hts inX8 hown hK hP 0 rfl rfl 0 (by decide) (hts _ tw_973) (fun _ h9 => h9) rfl dX8_bestBar_27 ?_
  refine lv_iload_n hx hb dX8_bestBar_30 rfl (lv_at hl 5 rfl) ?_
  refine va_iald hx hb hK hP 1 1 rfl rfl (vp_in_nI (by omega) (by decide)) dX8_bestBar_31 ?_
  refine lv_ti (y := (nI (dn sn))) (by rw [nI_clamp (by omega)]; rfl) ?_
  refine lv_icmp_gt (tgt := 90) hx hb dX8_bestBar_32 (by decide) (fun c_4 => ?_) (fun c_4 => ?_)
  · have c_4 := (nI_ltI (a := (dn sn)) (b := bb_3) (by omega) (by omega)).mp c_4
    refine lv_aload_n hx hb dX8_bestBar_90 rfl (lv_at hl 4 rfl) ?_
    refine va_get (D := D) (ci := 8) (v := .ref (a 37)) (C := RX8) (T := TX8) (N := 44) hx hb hts inX8 hown hK hP 0 rfl rfl 36 (by decide) (hts _ tw_1009) (fun _ h9 => h9) rfl dX8_bestBar_91 ?_
    refine lv_iload_n hx hb dX8_bestBar_94 rfl (lv_at hl 7 rfl) ?_
    refine lv_iload hx hb dX8_bestBar_95 (lv_at hl 3 rfl) ?_
    refine va_iast hx hb hK hP hD hS 6 1 rfl rfl (vp_in_nI (by omega) (by decide)) dX8_bestBar_97 (fun H locs hP hD hS => ?_)
    replace hP : va_P D classes [((a 0), .inr (8, (fX8 a (nI tx) fp (nI t0) wd (nI we) nu na (nI rd) ts (nI ru) (nI rw) (nI ca) df db sd))), (aI k (a 1) 3 (nF dn)), (aI k (a 4) 27 (sg se tm gs)), (aI k (a 2) 72 ffrees), (aI k (a 3) 72 fprices), (aI k (a 36) 4 fwalks), (aI k (a 37) 4 (upd (nF b2_3) (Int32.toNatClampNeg (nI cn)) (nI (br cn)))), (aI k (a 40) 4 fd_3)] H := hP
    replace hD : va_D A [((a 0), .inr (8, (fX8 a (nI tx) fp (nI t0) wd (nI we) nu na (nI rd) ts (nI ru) (nI rw) (nI ca) df db sd))), (aI k (a 1) 3 (nF dn)), (aI k (a 4) 27 (sg se tm gs)), (aI k (a 2) 72 ffrees), (aI k (a 3) 72 fprices), (aI k (a 36) 4 fwalks), (aI k (a 37) 4 (upd (nF b2_3) (Int32.toNatClampNeg (nI cn)) (nI (br cn)))), (aI k (a 40) 4 fd_3)] := hD
    rw [nI_clamp (n := cn) (by omega)] at hP hD
    rw [show upd (nF b2_3) cn (nI (br cn)) = nF (fun j => if j = cn then br cn else b2_3 j) from nF_upd _ _ _] at hP hD
    obtain ⟨d_6, hd_6⟩ : ∃ z : Nat → Nat, z = (fun j => if j = cn then br cn else b2_3 j) := ⟨_, rfl⟩
    rw [← hd_6] at hP hD
    have hbb_6 : ∀ j, d_6 j ≤ 24 := by rw [hd_6]; exact up_le hbl_3 (by omega)
    refine lv_iload hx hb dX8_bestBar_98 (lv_at hl 2 rfl) ?_
    have hP9 := hP.sub (ws' := [((a 0), .inr (8, (fX8 a (nI tx) fp (nI t0) wd (nI we) nu na (nI rd) ts (nI ru) (nI rw) (nI ca) df db sd))), (aI k (a 1) 3 (nF dn)), (aI k (a 4) 27 (sg se tm gs)), (aI k (a 2) 72 ffrees), (aI k (a 3) 72 fprices), (aI k (a 36) 4 fwalks), (aI k (a 37) 4 (nF d_6)), (aI k (a 40) 4 fd_3)]) [0, 1, 2, 3, 4, 5, 6, 7] rfl
    have hD9 := hD.sub (ws' := [((a 0), .inr (8, (fX8 a (nI tx) fp (nI t0) wd (nI we) nu na (nI rd) ts (nI ru) (nI rw) (nI ca) df db sd))), (aI k (a 1) 3 (nF dn)), (aI k (a 4) 27 (sg se tm gs)), (aI k (a 2) 72 ffrees), (aI k (a 3) 72 fprices), (aI k (a 36) 4 fwalks), (aI k (a 37) 4 (nF d_6)), (aI k (a 40) 4 fd_3)]) [0, 1, 2, 3, 4, 5, 6, 7] (by decide) rfl
    exact W.iret (v := (nI be_3)) hx hb hr (fun t ht hW => ⟨⟨(nI be_3), (d_6, fd_3, be_3), rfl, ⟨rfl, bsF_of hob (bm_e (by have h9 := hv_3.2.2.1; rw [show bb_3 = (dn sn) + 1 by omega] at h9; exact h9) hob), (fun j => by rw [hd_6]; show (if j = cn then br cn else b2_3 j) = br j; by_cases q : j = cn; rw [if_pos q, q]; rw [if_neg q]; exact hv_3.2.2.2.1 j q), hbb_6, hdvl_3⟩, by rw [ht]; exact hP9, hD9⟩, hS.F ht⟩) hS.2.2 dX8_bestBar_100
  · have c_4 : ¬ ((dn sn) < bb_3) := fun h => c_4 ((nI_ltI (a := (dn sn)) (b := bb_3) (by omega) (by omega)).mpr h)
    refine lv_aload_n hx hb dX8_bestBar_35 rfl (lv_at hl 4 rfl) ?_
    refine va_get (D := D) (ci := 8) (v := .ref (a 37)) (C := RX8) (T := TX8) (N := 44) hx hb hts inX8 hown hK hP 0 rfl rfl 36 (by decide) (hts _ tw_1009) (fun _ h9 => h9) rfl dX8_bestBar_36 ?_
    refine lv_iload_n hx hb dX8_bestBar_39 rfl (lv_at hl 7 rfl) ?_
    refine lv_iload hx hb dX8_bestBar_40 (lv_at hl 0 rfl) ?_
    refine va_iast hx hb hK hP hD hS 6 1 rfl rfl (vp_in_nI (by omega) (by decide)) dX8_bestBar_42 (fun H locs hP hD hS => ?_)
    replace hP : va_P D classes [((a 0), .inr (8, (fX8 a (nI tx) fp (nI t0) wd (nI we) nu na (nI rd) ts (nI ru) (nI rw) (nI ca) df db sd))), (aI k (a 1) 3 (nF dn)), (aI k (a 4) 27 (sg se tm gs)), (aI k (a 2) 72 ffrees), (aI k (a 3) 72 fprices), (aI k (a 36) 4 fwalks), (aI k (a 37) 4 (upd (nF b2_3) (Int32.toNatClampNeg (nI cn)) (nI bb_3))), (aI k (a 40) 4 fd_3)] H := hP
    replace hD : va_D A [((a 0), .inr (8, (fX8 a (nI tx) fp (nI t0) wd (nI we) nu na (nI rd) ts (nI ru) (nI rw) (nI ca) df db sd))), (aI k (a 1) 3 (nF dn)), (aI k (a 4) 27 (sg se tm gs)), (aI k (a 2) 72 ffrees), (aI k (a 3) 72 fprices), (aI k (a 36) 4 fwalks), (aI k (a 37) 4 (upd (nF b2_3) (Int32.toNatClampNeg (nI cn)) (nI bb_3))), (aI k (a 40) 4 fd_3)] := hD
    rw [nI_clamp (n := cn) (by omega)] at hP hD
    rw [show upd (nF b2_3) cn (nI bb_3) = nF (fun j => if j = cn then bb_3 else b2_3 j) from nF_upd _ _ _] at hP hD
    obtain ⟨d_8, hd_8⟩ : ∃ z : Nat → Nat, z = (fun j => if j = cn then bb_3 else b2_3 j) := ⟨_, rfl⟩
    rw [← hd_8] at hP hD
    have hbb_8 : ∀ j, d_8 j ≤ 24 := by rw [hd_8]; exact up_le hbl_3 (by omega)
    refine lv_aload_n hx hb dX8_bestBar_43 rfl (lv_at hl 4 rfl) ?_
    refine lv_iload_n hx hb dX8_bestBar_44 rfl (lv_at hl 5 rfl) ?_
    refine lv_iload_n hx hb dX8_bestBar_45 rfl (lv_at hl 6 rfl) ?_
    refine lv_iload_n hx hb dX8_bestBar_46 rfl (lv_at hl 7 rfl) ?_
    refine rw_i (D := D) (wr := []) (va_runV (As := [.int (nI sn), .int (nI se9), .int (nI cn)]) (rest := []) ⟨hx, hb, hml, hown, hts⟩ ((n_costOf l D k st lo a tx t0 we rd ru rw ca fp wd nu na ts df db sd dn se tm gs ffrees fprices fwalks d_8 fd_3 sn se9 cn hdn (by first | assumption | omega) hbb_8 (by first | assumption | omega) (by first | assumption | omega) hdvl_3 (by first | assumption | omega)) H.size) (cwV 3 hts (gV tw_1394 tw_1396 tw_65 tw_87 tw_1397) rfl rfl rfl (by decide +kernel) ⟨Nat.le_of_ble_eq_true rfl, Nat.le_of_ble_eq_true rfl⟩) (pV hS hAlo hlo hP hK (va_Dlo hD hAlo) hZ [0, 1, 2, 3, 4, 5, 6, 7] (by decide) rfl (ci := 8) (q := (RX8, TX8, 44)) (q0 := 0) rfl rfl) rfl rfl hl.1 rfl (lv_room (Nat.le_of_ble_eq_true rfl)) dX8_bestBar_47 ⟨Nat.le_of_ble_eq_true rfl, Nat.le_of_ble_eq_true rfl⟩) hS hA hP hD [0, 1, 2, 3, 4, 5, 6, 7] [] rfl rfl (by decide) (by decide) (fun r_9 u H locs hw_9 hP hD hS => ?_)
    obtain ⟨fdoorsOf__9, rfl⟩ : ∃ z, z = u := ⟨_, rfl⟩
    replace hP : va_P D classes [((a 0), .inr (8, (fX8 a (nI tx) fp (nI t0) wd (nI we) nu na (nI rd) ts (nI ru) (nI rw) (nI ca) df db sd))), (aI k (a 1) 3 (nF dn)), (aI k (a 4) 27 (sg se tm gs)), (aI k (a 2) 72 ffrees), (aI k (a 3) 72 fprices), (aI k (a 36) 4 fwalks), (aI k (a 37) 4 (nF d_8)), (aI k (a 40) 4 fdoorsOf__9)] H := hP
    replace hD : va_D A [((a 0), .inr (8, (fX8 a (nI tx) fp (nI t0) wd (nI we) nu na (nI rd) ts (nI ru) (nI rw) (nI ca) df db sd))), (aI k (a 1) 3 (nF dn)), (aI k (a 4) 27 (sg se tm gs)), (aI k (a 2) 72 ffrees), (aI k (a 3) 72 fprices), (aI k (a 36) 4 fwalks), (aI k (a 37) 4 (nF d_8)), (aI k (a 40) 4 fdoorsOf__9)] := hD
    try dsimp only at hw_9
    refine lv_istore (lv' := [(8, .int r_9), (7, .int (nI bb_3)), (6, .int le_3), (5, .int (nI be_3)), (4, .int (nI (br cn))), (0, .ref (a 0)), (1, .int (nI sn)), (2, .int (nI se9)), (3, .int (nI cn))]) hx hb dX8_bestBar_50 hl (by decide) rfl (fun ls hl => ?_)
    refine lv_iload hx hb dX8_bestBar_52 (lv_at hl 0 rfl) ?_
    refine lv_iload hx hb dX8_bestBar_54 (lv_at hl 2 rfl) ?_
    refine lv_icmp_ge (tgt := 64) hx hb dX8_bestBar_56 (by decide) (fun c_10 => ?_) (fun c_10 => ?_)
    · refine lv_iload hx hb dX8_bestBar_64 (lv_at hl 3 rfl) ?_
      refine lv_istore (lv' := [(5, .int (nI be_3)), (8, .int r_9), (7, .int (nI bb_3)), (6, .int le_3), (4, .int (nI (br cn))), (0, .ref (a 0)), (1, .int (nI sn)), (2, .int (nI se9)), (3, .int (nI cn))]) hx hb dX8_bestBar_66 hl (by decide) rfl (fun ls hl => ?_)
      refine lv_iload hx hb dX8_bestBar_68 (lv_at hl 1 rfl) ?_
      refine lv_iload hx hb dX8_bestBar_70 (lv_at hl 3 rfl) ?_
      refine lv_icmp_ge (tgt := 80) hx hb dX8_bestBar_72 (by decide) (fun c_11 => ?_) (fun c_11 => absurd c_11 (fun h => h c_10))
      refine lv_iload hx hb dX8_bestBar_80 (lv_at hl 3 rfl) ?_
      refine lv_istore (lv' := [(6, .int le_3), (5, .int (nI be_3)), (8, .int r_9), (7, .int (nI bb_3)), (4, .int (nI (br cn))), (0, .ref (a 0)), (1, .int (nI sn)), (2, .int (nI se9)), (3, .int (nI cn))]) hx hb dX8_bestBar_82 hl (by decide) rfl (fun ls hl => ?_)
      refine lv_iinc (v := (nI (bb_3 + 1))) (lv' := [(7, .int (nI (bb_3 + 1))), (6, .int le_3), (5, .int (nI be_3)), (8, .int r_9), (4, .int (nI (br cn))), (0, .ref (a 0)), (1, .int (nI sn)), (2, .int (nI se9)), (3, .int (nI cn))]) hx hb dX8_bestBar_84 hl (k := 3) rfl (nI_add bb_3 1) (by decide) rfl (fun ls hl => ?_)
      refine lv_goto (tgt := 24) hx hb dX8_bestBar_87 (by decide) ?_
      exact ih_3 _ (bb_3 + 1, be_3, le_3, d_8, fdoorsOf__9) _ _ _ (by omega) ⟨rfl, ⟨by omega, by omega, bm_n hv_3.2.2.1 (hw_9.1.trans (by rw [show d_8 cn = bb_3 by rw [hd_8]; exact if_pos rfl]; exact kb_congr (fun _ _ => rfl) (fun j hj => by rw [hd_8]; show (if j = cn then _ else b2_3 j) = br j; rw [if_neg (by omega)]; exact hv_3.2.2.2.1 j (by omega)))) c_10, fun j hj => by rw [hd_8]; show (if j = cn then _ else b2_3 j) = br j; rw [if_neg hj]; exact hv_3.2.2.2.1 j hj, hbb_8, hw_9.2⟩, hP, hD, hS, (lv_sub hl [0, 1, 2, 4, 5, 6, 7, 8] rfl)⟩
    · refine lv_iload hx hb dX8_bestBar_59 (lv_at hl 1 rfl) ?_
      refine lv_goto (tgt := 66) hx hb dX8_bestBar_61 (by decide) ?_
      refine lv_istore (lv' := [(5, .int (nI bb_3)), (8, .int r_9), (7, .int (nI bb_3)), (6, .int le_3), (4, .int (nI (br cn))), (0, .ref (a 0)), (1, .int (nI sn)), (2, .int (nI se9)), (3, .int (nI cn))]) hx hb dX8_bestBar_66 hl (by decide) rfl (fun ls hl => ?_)
      refine lv_iload hx hb dX8_bestBar_68 (lv_at hl 1 rfl) ?_
      refine lv_iload hx hb dX8_bestBar_70 (lv_at hl 3 rfl) ?_
      refine lv_icmp_ge (tgt := 80) hx hb dX8_bestBar_72 (by decide) (fun c_12 => absurd c_12 (c_10)) (fun c_12 => ?_)
      refine lv_iload hx hb dX8_bestBar_75 (lv_at hl 1 rfl) ?_
      refine lv_goto (tgt := 82) hx hb dX8_bestBar_77 (by decide) ?_
      refine lv_istore (lv' := [(6, .int r_9), (5, .int (nI bb_3)), (8, .int r_9), (7, .int (nI bb_3)), (4, .int (nI (br cn))), (0, .ref (a 0)), (1, .int (nI sn)), (2, .int (nI se9)), (3, .int (nI cn))]) hx hb dX8_bestBar_82 hl (by decide) rfl (fun ls hl => ?_)
      refine lv_iinc (v := (nI (bb_3 + 1))) (lv' := [(7, .int (nI (bb_3 + 1))), (6, .int r_9), (5, .int (nI bb_3)), (8, .int r_9), (4, .int (nI (br cn))), (0, .ref (a 0)), (1, .int (nI sn)), (2, .int (nI se9)), (3, .int (nI cn))]) hx hb dX8_bestBar_84 hl (k := 3) rfl (nI_add bb_3 1) (by decide) rfl (fun ls hl => ?_)
      refine lv_goto (tgt := 24) hx hb dX8_bestBar_87 (by decide) ?_
      exact ih_3 _ (bb_3 + 1, bb_3, r_9, d_8, fdoorsOf__9) _ _ _ (by omega) ⟨rfl, ⟨by omega, by omega, bm_y hv_3.2.2.1 (hw_9.1.trans (by rw [show d_8 cn = bb_3 by rw [hd_8]; exact if_pos rfl]; exact kb_congr (fun _ _ => rfl) (fun j hj => by rw [hd_8]; show (if j = cn then _ else b2_3 j) = br j; rw [if_neg (by omega)]; exact hv_3.2.2.2.1 j (by omega)))) (Int32.not_le.mp c_10), fun j hj => by rw [hd_8]; show (if j = cn then _ else b2_3 j) = br j; rw [if_neg hj]; exact hv_3.2.2.2.1 j hj, hbb_8, hw_9.2⟩, hP, hD, hS, (lv_sub hl [0, 1, 2, 4, 5, 6, 7, 8] rfl)⟩


set_option maxHeartbeats 4000000 in
set_option maxRecDepth 100000 in
theorem n_isAtRest (l : Launch) (D : va_G) (k : Nat → ClassId) (st : Nat → Nat) (lo : Nat) (a : Nat → Nat) (tx : Nat) (t0 : Nat) (we : Nat) (rd : Nat) (ru : Nat) (rw : Nat) (ca : Nat) (fp : Int32) (wd : Int64) (nu : Int32) (na : Int32) (ts : Int32) (df : Int32) (db : Int32) (sd : Int32) (dn : Nat → Nat) (se : Nat → Nat) (tm : Nat → Nat) (gs : Nat → Int32) (ffrees : Nat → Int32) (fprices : Nat → Int32) (fwalks : Nat → Int32) (br : Nat → Nat) (fdoorsOf : Nat → Int32) (sn : Nat) (se9 : Nat) (hdn : ∀ j, dn j ≤ 24) (hca : ca ≤ 4) (hbr : ∀ j, br j ≤ 24) (hs : sn < 3) (hdv : dvOK fdoorsOf) (hse9 : se9 < 2 ^ dn sn) (hbn : ∀ j, j < ca → br j ≤ dn sn) : CWi l D k st lo yX8_isAtRest cX8_isAtRest 5 (some .boolean) ({ frames := 6, cells := 0, slots := 0, locals := 145 }) 0 0 [.ref (a 0), .int (nI sn), .int (nI se9)] [((a 0), .inr (8, (fX8 a (nI tx) fp (nI t0) wd (nI we) nu na (nI rd) ts (nI ru) (nI rw) (nI ca) df db sd))), (aI k (a 1) 3 (nF dn)), (aI k (a 4) 27 (sg se tm gs)), (aI k (a 2) 72 ffrees), (aI k (a 3) 72 fprices), (aI k (a 36) 4 fwalks), (aI k (a 37) 4 (nF br)), (aI k (a 40) 4 fdoorsOf)] (fun (r : Int32) (u : (Nat → Nat) × (Nat → Int32)) => match u with | (br_, fdoorsOf_) => ((r = 1 ∧ rsP (dn sn) ca se9 (fun c i => pD (sdM dn (sg se tm gs) ffrees fprices sn) (fwalks c) df (db * 1000) i) br) ∨ (r = 0 ∧ ¬ rsP (dn sn) ca se9 (fun c i => pD (sdM dn (sg se tm gs) ffrees fprices sn) (fwalks c) df (db * 1000) i) br)) ∧ (∀ j, br_ j = br j) ∧ (∀ j, br_ j ≤ 24) ∧ dvOK fdoorsOf_) (fun (u : (Nat → Nat) × (Nat → Int32)) => match u with | (br_, fdoorsOf_) => [((a 0), .inr (8, (fX8 a (nI tx) fp (nI t0) wd (nI we) nu na (nI rd) ts (nI ru) (nI rw) (nI ca) df db sd))), (aI k (a 1) 3 (nF dn)), (aI k (a 4) 27 (sg se tm gs)), (aI k (a 2) 72 ffrees), (aI k (a 3) 72 fprices), (aI k (a 36) 4 fwalks), (aI k (a 37) 4 (nF br_)), (aI k (a 40) 4 fdoorsOf_)]) := by
  intro sz
  refine Met.ofW (cc := cX8_isAtRest) (maxL := 5) (ret := (some .boolean)) (by decide) rfl ?_
  intro p e s m args below meth c s₁ B hml hv
  obtain ⟨rfl, hsz, hlo, hP, hK, hDL, hZ⟩ := hv
  have hx := B.exec
  have hb := B.bytes
  have hr := B.returns
  have hts := WS_ts B.pre
  have hown : s.vm.findClass RX8 = some m.cls := findClass_of_methodNamed B.named
  have hlocks := B.notSynchronized
  subst hsz
  have hD := hDL.self (sz := s.heap.size)
  have hAlo := A_lo hDL hlo
  generalize hAe : va_A [((a 0), .inr (8, (fX8 a (nI tx) fp (nI t0) wd (nI we) nu na (nI rd) ts (nI ru) (nI rw) (nI ca) df db sd))), (aI k (a 1) 3 (nF dn)), (aI k (a 4) 27 (sg se tm gs)), (aI k (a 2) 72 ffrees), (aI k (a 3) 72 fprices), (aI k (a 36) 4 fwalks), (aI k (a 37) 4 (nF br)), (aI k (a 40) 4 fdoorsOf)] s.heap.size = A at hD hAlo ⊢
  have hA : ∀ q : Nat, s.heap.size ≤ q → A q := fun q h => by rw [← hAe]; exact Or.inr h
  have hS : va_S A s.heap s.heap [] := va_S.rf
  have hl := lv_entry ([.ref (a 0), .int (nI sn), .int (nI se9)]) (n := 5) (Nat.le_of_ble_eq_true rfl)
  rw [lg_entry_eq]
  generalize (lg_sl ([.ref (a 0), .int (nI sn), .int (nI se9)]) ++ List.replicate (5 - (lg_sl ([.ref (a 0), .int (nI sn), .int (nI se9)])).length) Slot.unset).toArray = ls at hl ⊢
  have hl : lv_has ls 5 [(0, .ref (a 0)), (1, .int (nI sn)), (2, .int (nI se9))] := hl
  have hd_9 := hdn sn
  refine lv_iconst (v := 1) hx hb dX8_isAtRest_0 (by decide) ?_
  refine lv_istore_n (lv' := [(3, .int 1), (0, .ref (a 0)), (1, .int (nI sn)), (2, .int (nI se9))]) hx hb dX8_isAtRest_1 rfl hl (by decide) rfl (fun ls hl => ?_)
  refine lv_iconst (v := 0) hx hb dX8_isAtRest_2 (by decide) ?_
  refine lv_istore (lv' := [(4, .int 0), (3, .int 1), (0, .ref (a 0)), (1, .int (nI sn)), (2, .int (nI se9))]) hx hb dX8_isAtRest_3 hl (by decide) rfl (fun ls hl => ?_)
  refine W_loop (σ := Nat × Int32 × (Nat → Nat) × (Nat → Int32)) (fun (n_ : Nat) (x_ : Nat × Int32 × (Nat → Nat) × (Nat → Int32)) (H : Heap) (locs : List Loc) (ls : Array Slot) => match x_ with | (cq_1, is_1, b2_1, fd_1) => n_ = 5 - cq_1 ∧ (cq_1 ≤ ca ∧ ((is_1 = 1 ∧ ∀ k, k < cq_1 → ∀ a, a ≤ (dn sn) → kb (dn sn) se9 (fun c i => pD (sdM dn (sg se tm gs) ffrees fprices sn) (fwalks c) df (db * 1000) i) br k (br k) ≤ kb (dn sn) se9 (fun c i => pD (sdM dn (sg se tm gs) ffrees fprices sn) (fwalks c) df (db * 1000) i) br k a) ∨ (is_1 = 0 ∧ ¬ rsP (dn sn) ca se9 (fun c i => pD (sdM dn (sg se tm gs) ffrees fprices sn) (fwalks c) df (db * 1000) i) br)) ∧ b2_1 = br ∧ (∀ j, b2_1 j ≤ 24) ∧ dvOK fd_1) ∧ va_P D classes [((a 0), .inr (8, (fX8 a (nI tx) fp (nI t0) wd (nI we) nu na (nI rd) ts (nI ru) (nI rw) (nI ca) df db sd))), (aI k (a 1) 3 (nF dn)), (aI k (a 4) 27 (sg se tm gs)), (aI k (a 2) 72 ffrees), (aI k (a 3) 72 fprices), (aI k (a 36) 4 fwalks), (aI k (a 37) 4 (nF b2_1)), (aI k (a 40) 4 fd_1)] H ∧ va_D A [((a 0), .inr (8, (fX8 a (nI tx) fp (nI t0) wd (nI we) nu na (nI rd) ts (nI ru) (nI rw) (nI ca) df db sd))), (aI k (a 1) 3 (nF dn)), (aI k (a 4) 27 (sg se tm gs)), (aI k (a 2) 72 ffrees), (aI k (a 3) 72 fprices), (aI k (a 36) 4 fwalks), (aI k (a 37) 4 (nF b2_1)), (aI k (a 40) 4 fd_1)] ∧ va_S A s.heap H locs ∧ lv_has ls 5 [(4, .int (nI cq_1)), (3, .int is_1), (0, .ref (a 0)), (1, .int (nI sn)), (2, .int (nI se9))]) (fun n_1 x_1 H locs ls hI ih_1 => ?_) _ (0, 1, br, fdoorsOf) ⟨rfl, ⟨by omega, .inl ⟨rfl, fun k h => absurd h (Nat.not_lt_zero k)⟩, rfl, hbr, hdv⟩, hP, hD, hS, (lv_sub hl [0, 1, 2, 3, 4] rfl)⟩
  obtain ⟨cq_1, is_1, b2_1, fd_1⟩ := x_1
  obtain ⟨hm_1, hv_1, hP, hD, hS, hl⟩ := hI
  subst hm_1
  have hbl_1 := hv_1.2.2.2.1
  have hdvl_1 := hv_1.2.2.2.2
  refine lv_iload hx hb dX8_isAtRest_5 (lv_at hl 0 rfl) ?_
  refine lv_aload_n hx hb dX8_isAtRest_7 rfl (lv_at hl 2 rfl) ?_
  refine va_get (D := D) (ci := 8) (v := .int (nI ca)) (C := RX8) (T := TX8) (N := 44) hx hb hts inX8 hown hK hP 0 rfl rfl 34 (by decide) (hts _ tw_1007) (fun _ h9 => h9) rfl dX8_isAtRest_8 ?_
  refine lv_icmp_ge (tgt := 48) hx hb dX8_isAtRest_11 (by decide) (fun c_2 => ?_) (fun c_2 => ?_)
  · have c_2 := (nI_leI (a := ca) (b := cq_1) (by omega) (by omega)).mp c_2
    refine lv_iload_n hx hb dX8_isAtRest_48 rfl (lv_at hl 1 rfl) ?_
    rcases hv_1.2.1 with ⟨hE_9, hF_9⟩ | ⟨hE_9, hF_9⟩
    · refine lv_ti (y := 1) hE_9 ?_
      have hP9 := hP.sub (ws' := [((a 0), .inr (8, (fX8 a (nI tx) fp (nI t0) wd (nI we) nu na (nI rd) ts (nI ru) (nI rw) (nI ca) df db sd))), (aI k (a 1) 3 (nF dn)), (aI k (a 4) 27 (sg se tm gs)), (aI k (a 2) 72 ffrees), (aI k (a 3) 72 fprices), (aI k (a 36) 4 fwalks), (aI k (a 37) 4 (nF b2_1)), (aI k (a 40) 4 fd_1)]) [0, 1, 2, 3, 4, 5, 6, 7] rfl
      have hD9 := hD.sub (ws' := [((a 0), .inr (8, (fX8 a (nI tx) fp (nI t0) wd (nI we) nu na (nI rd) ts (nI ru) (nI rw) (nI ca) df db sd))), (aI k (a 1) 3 (nF dn)), (aI k (a 4) 27 (sg se tm gs)), (aI k (a 2) 72 ffrees), (aI k (a 3) 72 fprices), (aI k (a 36) 4 fwalks), (aI k (a 37) 4 (nF b2_1)), (aI k (a 40) 4 fd_1)]) [0, 1, 2, 3, 4, 5, 6, 7] (by decide) rfl
      exact W.zret (v := 1) (ty := .boolean) hx hb hr rfl (fun t ht hW => ⟨⟨1, (b2_1, fd_1), rfl, ⟨.inl ⟨rfl, fun k hk => hF_9 k (by omega)⟩, fun j => congrFun hv_1.2.2.1 j, hv_1.2.2.2.1, hv_1.2.2.2.2⟩, by rw [ht]; exact hP9, hD9⟩, hS.F ht⟩) hS.2.2 dX8_isAtRest_49
    · refine lv_ti (y := 0) hE_9 ?_
      have hP9 := hP.sub (ws' := [((a 0), .inr (8, (fX8 a (nI tx) fp (nI t0) wd (nI we) nu na (nI rd) ts (nI ru) (nI rw) (nI ca) df db sd))), (aI k (a 1) 3 (nF dn)), (aI k (a 4) 27 (sg se tm gs)), (aI k (a 2) 72 ffrees), (aI k (a 3) 72 fprices), (aI k (a 36) 4 fwalks), (aI k (a 37) 4 (nF b2_1)), (aI k (a 40) 4 fd_1)]) [0, 1, 2, 3, 4, 5, 6, 7] rfl
      have hD9 := hD.sub (ws' := [((a 0), .inr (8, (fX8 a (nI tx) fp (nI t0) wd (nI we) nu na (nI rd) ts (nI ru) (nI rw) (nI ca) df db sd))), (aI k (a 1) 3 (nF dn)), (aI k (a 4) 27 (sg se tm gs)), (aI k (a 2) 72 ffrees), (aI k (a 3) 72 fprices), (aI k (a 36) 4 fwalks), (aI k (a 37) 4 (nF b2_1)), (aI k (a 40) 4 fd_1)]) [0, 1, 2, 3, 4, 5, 6, 7] (by decide) rfl
      exact W.zret (v := 0) (ty := .boolean) hx hb hr rfl (fun t ht hW => ⟨⟨0, (b2_1, fd_1), rfl, ⟨.inr ⟨rfl, hF_9⟩, fun j => congrFun hv_1.2.2.1 j, hv_1.2.2.2.1, hv_1.2.2.2.2⟩, by rw [ht]; exact hP9, hD9⟩, hS.F ht⟩) hS.2.2 dX8_isAtRest_49
  · have c_2 : ¬ (ca ≤ cq_1) := fun h => c_2 ((nI_leI (a := ca) (b := cq_1) (by omega) (by omega)).mpr h)
    refine lv_iload_n hx hb dX8_isAtRest_14 rfl (lv_at hl 1 rfl) ?_
    refine lv_if_eq (tgt := 48) hx hb dX8_isAtRest_15 (by decide) (fun c_3 => ?_) (fun c_3 => ?_)
    · refine lv_iload_n hx hb dX8_isAtRest_48 rfl (lv_at hl 1 rfl) ?_
      rcases hv_1.2.1 with ⟨hE_9, hF_9⟩ | ⟨hE_9, hF_9⟩
      · exact absurd (hE_9.symm.trans c_3) (by decide)
      · refine lv_ti (y := 0) hE_9 ?_
        have hP9 := hP.sub (ws' := [((a 0), .inr (8, (fX8 a (nI tx) fp (nI t0) wd (nI we) nu na (nI rd) ts (nI ru) (nI rw) (nI ca) df db sd))), (aI k (a 1) 3 (nF dn)), (aI k (a 4) 27 (sg se tm gs)), (aI k (a 2) 72 ffrees), (aI k (a 3) 72 fprices), (aI k (a 36) 4 fwalks), (aI k (a 37) 4 (nF b2_1)), (aI k (a 40) 4 fd_1)]) [0, 1, 2, 3, 4, 5, 6, 7] rfl
        have hD9 := hD.sub (ws' := [((a 0), .inr (8, (fX8 a (nI tx) fp (nI t0) wd (nI we) nu na (nI rd) ts (nI ru) (nI rw) (nI ca) df db sd))), (aI k (a 1) 3 (nF dn)), (aI k (a 4) 27 (sg se tm gs)), (aI k (a 2) 72 ffrees), (aI k (a 3) 72 fprices), (aI k (a 36) 4 fwalks), (aI k (a 37) 4 (nF b2_1)), (aI k (a 40) 4 fd_1)]) [0, 1, 2, 3, 4, 5, 6, 7] (by decide) rfl
        exact W.zret (v := 0) (ty := .boolean) hx hb hr rfl (fun t ht hW => ⟨⟨0, (b2_1, fd_1), rfl, ⟨.inr ⟨rfl, hF_9⟩, fun j => congrFun hv_1.2.2.1 j, hv_1.2.2.2.1, hv_1.2.2.2.2⟩, by rw [ht]; exact hP9, hD9⟩, hS.F ht⟩) hS.2.2 dX8_isAtRest_49
    · have his_1 : ∀ k, k < cq_1 → ∀ a, a ≤ (dn sn) → kb (dn sn) se9 (fun c i => pD (sdM dn (sg se tm gs) ffrees fprices sn) (fwalks c) df (db * 1000) i) br k (br k) ≤ kb (dn sn) se9 (fun c i => pD (sdM dn (sg se tm gs) ffrees fprices sn) (fwalks c) df (db * 1000) i) br k a := by rcases hv_1.2.1 with ⟨_, h⟩ | ⟨h, _⟩; exact h; exact absurd h c_3
      have hbq_1 : b2_1 cq_1 ≤ dn sn := by rw [hv_1.2.2.1]; exact hbn _ (by omega)
      refine lv_aload_n hx hb dX8_isAtRest_18 rfl (lv_at hl 2 rfl) ?_
      refine lv_iload_n hx hb dX8_isAtRest_19 rfl (lv_at hl 3 rfl) ?_
      refine lv_iload_n hx hb dX8_isAtRest_20 rfl (lv_at hl 4 rfl) ?_
      refine lv_iload hx hb dX8_isAtRest_21 (lv_at hl 0 rfl) ?_
      refine rw_i (D := D) (wr := []) (va_runV (As := [.int (nI sn), .int (nI se9), .int (nI cq_1)]) (rest := []) ⟨hx, hb, hml, hown, hts⟩ ((n_bestBar l D k st lo a tx t0 we rd ru rw ca fp wd nu na ts df db sd dn se tm gs ffrees fprices fwalks b2_1 fd_1 sn se9 cq_1 hdn (by first | assumption | omega) hbl_1 (by first | assumption | omega) (by first | assumption | omega) hdvl_1 (by first | assumption | omega) (by first | assumption | omega)) H.size) (cwV 3 hts (gV tw_1414 tw_1416 tw_69 tw_87 tw_1417) rfl rfl rfl (by decide +kernel) ⟨Nat.le_of_ble_eq_true rfl, Nat.le_of_ble_eq_true rfl⟩) (pV hS hAlo hlo hP hK (va_Dlo hD hAlo) hZ [0, 1, 2, 3, 4, 5, 6, 7] (by decide) rfl (ci := 8) (q := (RX8, TX8, 44)) (q0 := 0) rfl rfl) rfl rfl hl.1 rfl (lv_room (Nat.le_of_ble_eq_true rfl)) dX8_isAtRest_23 ⟨Nat.le_of_ble_eq_true rfl, Nat.le_of_ble_eq_true rfl⟩) hS hA hP hD [0, 1, 2, 3, 4, 5, 6, 7] [] rfl rfl (by decide) (by decide) (fun r_4 u H locs hw_4 hP hD hS => ?_)
      obtain ⟨br__4, fdoorsOf__4, er_4⟩ := u
      replace hP : va_P D classes [((a 0), .inr (8, (fX8 a (nI tx) fp (nI t0) wd (nI we) nu na (nI rd) ts (nI ru) (nI rw) (nI ca) df db sd))), (aI k (a 1) 3 (nF dn)), (aI k (a 4) 27 (sg se tm gs)), (aI k (a 2) 72 ffrees), (aI k (a 3) 72 fprices), (aI k (a 36) 4 fwalks), (aI k (a 37) 4 (nF br__4)), (aI k (a 40) 4 fdoorsOf__4)] H := hP
      replace hD : va_D A [((a 0), .inr (8, (fX8 a (nI tx) fp (nI t0) wd (nI we) nu na (nI rd) ts (nI ru) (nI rw) (nI ca) df db sd))), (aI k (a 1) 3 (nF dn)), (aI k (a 4) 27 (sg se tm gs)), (aI k (a 2) 72 ffrees), (aI k (a 3) 72 fprices), (aI k (a 36) 4 fwalks), (aI k (a 37) 4 (nF br__4)), (aI k (a 40) 4 fdoorsOf__4)] := hD
      try dsimp only at hw_4
      obtain ⟨rfl, her_5, hbe_5, hbu_5, hdw_5⟩ := hw_4
      have hbf_5 := funext hbe_5
      have hel_5 : er_4 ≤ dn sn := by rw [her_5]; exact bsF_le (by omega)
      refine lv_aload_n hx hb dX8_isAtRest_26 rfl (lv_at hl 2 rfl) ?_
      refine va_get (D := D) (ci := 8) (v := .ref (a 37)) (C := RX8) (T := TX8) (N := 44) hx hb hts inX8 hown hK hP 0 rfl rfl 36 (by decide) (hts _ tw_1009) (fun _ h9 => h9) rfl dX8_isAtRest_27 ?_
      refine lv_iload hx hb dX8_isAtRest_30 (lv_at hl 0 rfl) ?_
      refine va_iald hx hb hK hP 6 1 rfl rfl (vp_in_nI (by omega) (by decide)) dX8_isAtRest_32 ?_
      have hq_6 := hbu_5 cq_1
      refine lv_ti (y := (nI (br__4 cq_1))) (by rw [nI_clamp (by omega)]; rfl) ?_
      refine lv_icmp_ne (tgt := 40) hx hb dX8_isAtRest_33 (by decide) (fun c_7 => ?_) (fun c_7 => ?_)
      · have c_7 : ¬ (er_4 = (br__4 cq_1)) := fun h => c_7 ((nI_eq (a := er_4) (b := (br__4 cq_1)) (by omega) (by omega)).mpr h)
        refine lv_iconst (v := 0) hx hb dX8_isAtRest_40 (by decide) ?_
        refine lv_istore_n (lv' := [(3, .int 0), (4, .int (nI cq_1)), (0, .ref (a 0)), (1, .int (nI sn)), (2, .int (nI se9))]) hx hb dX8_isAtRest_41 rfl hl (by decide) rfl (fun ls hl => ?_)
        refine lv_iinc (v := (nI (cq_1 + 1))) (lv' := [(4, .int (nI (cq_1 + 1))), (3, .int 0), (0, .ref (a 0)), (1, .int (nI sn)), (2, .int (nI se9))]) hx hb dX8_isAtRest_42 hl (k := 1) rfl (nI_add cq_1 1) (by decide) rfl (fun ls hl => ?_)
        refine lv_goto (tgt := 5) hx hb dX8_isAtRest_45 (by decide) ?_
        have hR_5 : bsF (dn sn) (kb (dn sn) se9 (fun c i => pD (sdM dn (sg se tm gs) ffrees fprices sn) (fwalks c) df (db * 1000) i) br cq_1) (br cq_1) = er_4 ∧ br__4 cq_1 = br cq_1 := by have h8 := her_5; rw [hv_1.2.2.1] at h8; exact ⟨h8.symm, by rw [hbf_5, hv_1.2.2.1]⟩
        exact ih_1 _ (cq_1 + 1, 0, br__4, fdoorsOf__4) _ _ _ (by omega) ⟨rfl, ⟨by omega, .inr ⟨rfl, fun q => absurd ((bsF_own (show br cq_1 ≤ dn sn from hbn cq_1 (by omega))).mpr (q cq_1 (by omega))) (by rw [hR_5.1, ← hR_5.2]; exact c_7)⟩, hbf_5.trans hv_1.2.2.1, hbu_5, hdw_5⟩, hP, hD, hS, (lv_sub hl [0, 1, 2, 3, 4] rfl)⟩
      · have c_7 := (nI_eq (a := er_4) (b := (br__4 cq_1)) (by omega) (by omega)).mp c_7
        refine lv_iconst (v := 1) hx hb dX8_isAtRest_36 (by decide) ?_
        refine lv_goto (tgt := 41) hx hb dX8_isAtRest_37 (by decide) ?_
        refine lv_istore_n (lv' := [(3, .int 1), (4, .int (nI cq_1)), (0, .ref (a 0)), (1, .int (nI sn)), (2, .int (nI se9))]) hx hb dX8_isAtRest_41 rfl hl (by decide) rfl (fun ls hl => ?_)
        refine lv_iinc (v := (nI (cq_1 + 1))) (lv' := [(4, .int (nI (cq_1 + 1))), (3, .int 1), (0, .ref (a 0)), (1, .int (nI sn)), (2, .int (nI se9))]) hx hb dX8_isAtRest_42 hl (k := 1) rfl (nI_add cq_1 1) (by decide) rfl (fun ls hl => ?_)
        refine lv_goto (tgt := 5) hx hb dX8_isAtRest_45 (by decide) ?_
        have hR_5 : bsF (dn sn) (kb (dn sn) se9 (fun c i => pD (sdM dn (sg se tm gs) ffrees fprices sn) (fwalks c) df (db * 1000) i) br cq_1) (br cq_1) = er_4 ∧ br__4 cq_1 = br cq_1 := by have h8 := her_5; rw [hv_1.2.2.1] at h8; exact ⟨h8.symm, by rw [hbf_5, hv_1.2.2.1]⟩
        exact ih_1 _ (cq_1 + 1, 1, br__4, fdoorsOf__4) _ _ _ (by omega) ⟨rfl, ⟨by omega, .inl ⟨rfl, fun k hk => by rcases (show k = cq_1 ∨ k < cq_1 by omega) with e | e; rw [e]; exact (bsF_own (show br cq_1 ≤ dn sn from hbn cq_1 (by omega))).mp (by rw [hR_5.1, c_7, hR_5.2]); exact his_1 k e⟩, hbf_5.trans hv_1.2.2.1, hbu_5, hdw_5⟩, hP, hD, hS, (lv_sub hl [0, 1, 2, 3, 4] rfl)⟩



set_option maxHeartbeats 4000000 in
set_option maxRecDepth 100000 in
theorem n_isAtRest (l : Launch) (D : va_G) (k : Nat → ClassId) (st : Nat → Nat) (lo : Nat) (a : Nat → Nat) (tx : Nat) (t0 : Nat) (we : Nat) (rd : Nat) (ru : Nat) (rw : Nat) (ca : Nat) (fp : Int32) (wd : Int64) (nu : Int32) (na : Int32) (ts : Int32) (df : Int32) (db : Int32) (sd : Int32) (dn : Nat → Nat) (se : Nat → Nat) (tm : Nat → Nat) (gs : Nat → Int32) (ffrees : Nat → Int32) (fprices : Nat → Int32) (fwalks : Nat → Int32) (br : Nat → Nat) (fdoorsOf : Nat → Int32) (sn : Nat) (se9 : Nat) (hdn : ∀ j, dn j ≤ 24) (hca : ca ≤ 4) (hbr : ∀ j, br j ≤ 24) (hs : sn < 3) (hdv : dvOK fdoorsOf) (hse9 : se9 < 2 ^ dn sn) (hbn : ∀ j, j < ca → br j ≤ dn sn) : CWi l D k st lo yX8_isAtRest cX8_isAtRest 5 (some .boolean) ({ frames := 6, cells := 0, slots := 0, locals := 145 }) 0 0 [.ref (a 0), .int (nI sn), .int (nI se9)] [((a 0), .inr (8, (fX8 a (nI tx) fp (nI t0) wd (nI we) nu na (nI rd) ts (nI ru) (nI rw) (nI ca) df db sd))), (aI k (a 1) 3 (nF dn)), (aI k (a 4) 27 (sg se tm gs)), (aI k (a 2) 72 ffrees), (aI k (a 3) 72 fprices), (aI k (a 36) 4 fwalks), (aI k (a 37) 4 (nF br)), (aI k (a 40) 4 fdoorsOf)] (fun (r : Int32) (u : (Nat → Nat) × (Nat → Int32)) => match u with | (br_, fdoorsOf_) => ((r = 1 ∧ rsP (dn sn) ca se9 (fun c i => pD (sdM dn (sg se tm gs) ffrees fprices sn) (fwalks c) df (db * 1000) i) br) ∨ (r = 0 ∧ ¬ rsP (dn sn) ca se9 (fun c i => pD (sdM dn (sg se tm gs) ffrees fprices sn) (fwalks c) df (db * 1000) i) br)) ∧ (∀ j, br_ j = br j) ∧ (∀ j, br_ j ≤ 24) ∧ dvOK fdoorsOf_) (fun (u : (Nat → Nat) × (Nat → Int32)) => match u with | (br_, fdoorsOf_) => [((a 0), .inr (8, (fX8 a (nI tx) fp (nI t0) wd (nI we) nu na (nI rd) ts (nI ru) (nI rw) (nI ca) df db sd))), (aI k (a 1) 3 (nF dn)), (aI k (a 4) 27 (sg se tm gs)), (aI k (a 2) 72 ffrees), (aI k (a 3) 72 fprices), (aI k (a 36) 4 fwalks), (aI k (a 37) 4 (nF br_)), (aI k (a 40) 4 fdoorsOf_)]) := by
  intro sz
  refine Met.ofW (cc := cX8_isAtRest) (maxL := 5) (ret := (some .boolean)) (by decide) rfl ?_
  intro p e s m args below meth c s₁ B hml hv
  obtain ⟨rfl, hsz, hlo, hP, hK, hDL, hZ⟩ := hv
  have hx := B.exec
  have hb := B.bytes
  have hr := B.returns
  have hts := WS_ts B.pre
  have hown : s.vm.findClass RX8 = some m.cls := findClass_of_methodNamed B.named
  have hlocks := B.notSynchronized
  subst hsz
  have hD := hDL.self (sz := s.heap.size)
  have hAlo := A_lo hDL hlo
  generalize hAe : va_A [((a 0), .inr (8, (fX8 a (nI tx) fp (nI t0) wd (nI we) nu na (nI rd) ts (nI ru) (nI rw) (nI ca) df db sd))), (aI k (a 1) 3 (nF dn)), (aI k (a 4) 27 (sg se tm gs)), (aI k (a 2) 72 ffrees), (aI k (a 3) 72 fprices), (aI k (a 36) 4 fwalks), (aI k (a 37) 4 (nF br)), (aI k (a 40) 4 fdoorsOf)] s.heap.size = A at hD hAlo ⊢
  have hA : ∀ q : Nat, s.heap.size ≤ q → A q := fun q h => by rw [← hAe]; exact Or.inr h
  have hS : va_S A s.heap s.heap [] := va_S.rf
  have hl := lv_entry ([.ref (a 0), .int (nI sn), .int (nI se9)]) (n := 5) (Nat.le_of_ble_eq_true rfl)
  rw [lg_entry_eq]
  generalize (lg_sl ([.ref (a 0), .int (nI sn), .int (nI se9)]) ++ List.replicate (5 - (lg_sl ([.ref (a 0), .int (nI sn), .int (nI se9)])).length) Slot.unset).toArray = ls at hl ⊢
  have hl : lv_has ls 5 [(0, .ref (a 0)), (1, .int (nI sn)), (2, .int (nI se9))] := hl
  have hd_9 := hdn sn
  refine lv_iconst (v := 1) hx hb dX8_isAtRest_0 (by decide) ?_
  refine lv_istore_n (lv' := [(3, .int 1), (0, .ref (a 0)), (1, .int (nI sn)), (2, .int (nI se9))]) hx hb dX8_isAtRest_1 rfl hl (by decide) rfl (fun ls hl => ?_)
  refine lv_iconst (v := 0) hx hb dX8_isAtRest_2 (by decide) ?_
  refine lv_istore (lv' := [(4, .int 0), (3, .int 1), (0, .ref (a 0)), (1, .int (nI sn)), (2, .int (nI se9))]) hx hb dX8_isAtRest_3 hl (by decide) rfl (fun ls hl => ?_)
  refine W_loop (σ := Nat × Int32 × (Nat → Nat) × (Nat → Int32)) (fun (n_ : Nat) (x_ : Nat × Int32 × (Nat → Nat) × (Nat → Int32)) (H : Heap) (locs : List Loc) (ls : Array Slot) => match x_ with | (cq_1, is_1, b2_1, fd_1) => n_ = 5 - cq_1 ∧ (cq_1 ≤ ca ∧ ((is_1 = 1 ∧ ∀ k, k < cq_1 → ∀ a, a ≤ (dn sn) → kb (dn sn) se9 (fun c i => pD (sdM dn (sg se tm gs) ffrees fprices sn) (fwalks c) df (db * 1000) i) br k (br k) ≤ kb (dn sn) se9 (fun c i => pD (sdM dn (sg se tm gs) ffrees fprices sn) (fwalks c) df (db * 1000) i) br k a) ∨ (is_1 = 0 ∧ ¬ rsP (dn sn) ca se9 (fun c i => pD (sdM dn (sg se tm gs) ffrees fprices sn) (fwalks c) df (db * 1000) i) br)) ∧ b2_1 = br ∧ (∀ j, b2_1 j ≤ 24) ∧ dvOK fd_1) ∧ va_P D classes [((a 0), .inr (8, (fX8 a (nI tx) fp (nI t0) wd (nI we) nu na (nI rd) ts (nI ru) (nI rw) (nI ca) df db sd))), (aI k (a 1) 3 (nF dn)), (aI k (a 4) 27 (sg se tm gs)), (aI k (a 2) 72 ffrees), (aI k (a 3) 72 fprices), (aI k (a 36) 4 fwalks), (aI k (a 37) 4 (nF b2_1)), (aI k (a 40) 4 fd_1)] H ∧ va_D A [((a 0), .inr (8, (fX8 a (nI tx) fp (nI t0) wd (nI we) nu na (nI rd) ts (nI ru) (nI rw) (nI ca) df db sd))), (aI k (a 1) 3 (nF dn)), (aI k (a 4) 27 (sg se tm gs)), (aI k (a 2) 72 ffrees), (aI k (a 3) 72 fprices), (aI k (a 36) 4 fwalks), (aI k (a 37) 4 (nF b2_1)), (aI k (a 40) 4 fd_1)] ∧ va_S A s.heap H locs ∧ lv_has ls 5 [(4, .int (nI cq_1)), (3, .int is_1), (0, .ref (a 0)), (1, .int (nI sn)), (2, .int (nI se9))]) (fun n_1 x_1 H locs ls hI ih_1 => ?_) _ (0, 1, br, fdoorsOf) ⟨rfl, ⟨by omega, .inl ⟨rfl, fun k h => absurd h (Nat.not_lt_zero k)⟩, rfl, hbr, hdv⟩, hP, hD, hS, (lv_sub hl [0, 1, 2, 3, 4] rfl)⟩
  obtain ⟨cq_1, is_1, b2_1, fd_1⟩ := x_1
  obtain ⟨hm_1, hv_1, hP, hD, hS, hl⟩ := hI
  subst hm_1
  have hbl_1 := hv_1.2.2.2.1
  have hdvl_1 := hv_1.2.2.2.2
  refine lv_iload hx hb dX8_isAtRest_5 (lv_at hl 0 rfl) ?_
  refine lv_aload_n hx hb dX8_isAtRest_7 rfl (lv_at hl 2 rfl) ?_
  refine va_get (D := D) (ci := 8) (v := .int (nI ca)) (C := RX8) (T := TX8) (N := 44) hx hb hts inX8 hown hK hP 0 rfl rfl 34 (by decide) (hts _ tw_1007) (fun _ h9 => h9) rfl dX8_isAtRest_8 ?_
  refine lv_icmp_ge (tgt := 48) hx hb dX8_isAtRest_11 (by decide) (fun c_2 => ?_) (fun c_2 => ?_)
  · have c_2 := (nI_leI (a := ca) (b := cq_1) (by omega) (by omega)).mp c_2
    refine lv_iload_n hx hb dX8_isAtRest_48 rfl (lv_at hl 1 rfl) ?_
    rcases hv_1.2.1 with ⟨hE_9, hF_9⟩ | ⟨hE_9, hF_9⟩
    · refine lv_ti (y := 1) hE_9 ?_
      obtain ⟨hP9, hD9⟩ := pd_sub [((a 0), .inr (8, (fX8 a (nI tx) fp (nI t0) wd (nI we) nu na (nI rd) ts (nI ru) (nI rw) (nI ca) df db sd))), (aI k (a 1) 3 (nF dn)), (aI k (a 4) 27 (sg se tm gs)), (aI k (a 2) 72 ffrees), (aI k (a 3) 72 fprices), (aI k (a 36) 4 fwalks), (aI k (a 37) 4 (nF b2_1)), (aI k (a 40) 4 fd_1)] [0, 1, 2, 3, 4, 5, 6, 7] hP hD (by decide) rfl
      exact W.zret (v := 1) (ty := .boolean) hx hb hr rfl (fun t ht hW => ⟨⟨1, (b2_1, fd_1), rfl, ⟨.inl ⟨rfl, fun k hk => hF_9 k (by omega)⟩, fun j => congrFun hv_1.2.2.1 j, hv_1.2.2.2.1, hv_1.2.2.2.2⟩, by rw [ht]; exact hP9, hD9⟩, hS.F ht⟩) hS.2.2 dX8_isAtRest_49
    · refine lv_ti (y := 0) hE_9 ?_
      obtain ⟨hP9, hD9⟩ := pd_sub [((a 0), .inr (8, (fX8 a (nI tx) fp (nI t0) wd (nI we) nu na (nI rd) ts (nI ru) (nI rw) (nI ca) df db sd))), (aI k (a 1) 3 (nF dn)), (aI k (a 4) 27 (sg se tm gs)), (aI k (a 2) 72 ffrees), (aI k (a 3) 72 fprices), (aI k (a 36) 4 fwalks), (aI k (a 37) 4 (nF b2_1)), (aI k (a 40) 4 fd_1)] [0, 1, 2, 3, 4, 5, 6, 7] hP hD (by decide) rfl
      exact W.zret (v := 0) (ty := .boolean) hx hb hr rfl (fun t ht hW => ⟨⟨0, (b2_1, fd_1), rfl, ⟨.inr ⟨rfl, hF_9⟩, fun j => congrFun hv_1.2.2.1 j, hv_1.2.2.2.1, hv_1.2.2.2.2⟩, by rw [ht]; exact hP9, hD9⟩, hS.F ht⟩) hS.2.2 dX8_isAtRest_49
  · have c_2 : ¬ (ca ≤ cq_1) := fun h => c_2 ((nI_leI (a := ca) (b := cq_1) (by omega) (by omega)).mpr h)
    refine lv_iload_n hx hb dX8_isAtRest_14 rfl (lv_at hl 1 rfl) ?_
    refine lv_if_eq (tgt := 48) hx hb dX8_isAtRest_15 (by decide) (fun c_3 => ?_) (fun c_3 => ?_)
    · refine lv_iload_n hx hb dX8_isAtRest_48 rfl (lv_at hl 1 rfl) ?_
      rcases hv_1.2.1 with ⟨hE_9, hF_9⟩ | ⟨hE_9, hF_9⟩
      · exact absurd (hE_9.symm.trans c_3) (by decide)
      · refine lv_ti (y := 0) hE_9 ?_
        obtain ⟨hP9, hD9⟩ := pd_sub [((a 0), .inr (8, (fX8 a (nI tx) fp (nI t0) wd (nI we) nu na (nI rd) ts (nI ru) (nI rw) (nI ca) df db sd))), (aI k (a 1) 3 (nF dn)), (aI k (a 4) 27 (sg se tm gs)), (aI k (a 2) 72 ffrees), (aI k (a 3) 72 fprices), (aI k (a 36) 4 fwalks), (aI k (a 37) 4 (nF b2_1)), (aI k (a 40) 4 fd_1)] [0, 1, 2, 3, 4, 5, 6, 7] hP hD (by decide) rfl
        exact W.zret (v := 0) (ty := .boolean) hx hb hr rfl (fun t ht hW => ⟨⟨0, (b2_1, fd_1), rfl, ⟨.inr ⟨rfl, hF_9⟩, fun j => congrFun hv_1.2.2.1 j, hv_1.2.2.2.1, hv_1.2.2.2.2⟩, by rw [ht]; exact hP9, hD9⟩, hS.F ht⟩) hS.2.2 dX8_isAtRest_49
    · have his_1 : ∀ k, k < cq_1 → ∀ a, a ≤ (dn sn) → kb (dn sn) se9 (fun c i => pD (sdM dn (sg se tm gs) ffrees fprices sn) (fwalks c) df (db * 1000) i) br k (br k) ≤ kb (dn sn) se9 (fun c i => pD (sdM dn (sg se tm gs) ffrees fprices sn) (fwalks c) df (db * 1000) i) br k a := by rcases hv_1.2.1 with ⟨_, h⟩ | ⟨h, _⟩; exact h; exact absurd h c_3
      have hbq_1 : b2_1 cq_1 ≤ dn sn := by rw [hv_1.2.2.1]; exact hbn _ (by omega)
      refine lv_aload_n hx hb dX8_isAtRest_18 rfl (lv_at hl 2 rfl) ?_
      refine lv_iload_n hx hb dX8_isAtRest_19 rfl (lv_at hl 3 rfl) ?_
      refine lv_iload_n hx hb dX8_isAtRest_20 rfl (lv_at hl 4 rfl) ?_
      refine lv_iload hx hb dX8_isAtRest_21 (lv_at hl 0 rfl) ?_
      refine rw_i (D := D) (wr := []) (va_runV (As := [.int (nI sn), .int (nI se9), .int (nI cq_1)]) (rest := []) ⟨hx, hb, hml, hown, hts⟩ ((n_bestBar l D k st lo a tx t0 we rd ru rw ca fp wd nu na ts df db sd dn se tm gs ffrees fprices fwalks b2_1 fd_1 sn se9 cq_1 hdn (by first | assumption | omega) hbl_1 (by first | assumption | omega) (by first | assumption | omega) hdvl_1 (by first | assumption | omega) (by first | assumption | omega)) H.size) (cwV 3 hts (gV tw_1414 tw_1416 tw_69 tw_87 tw_1417) rfl rfl rfl (by decide +kernel) ⟨Nat.le_of_ble_eq_true rfl, Nat.le_of_ble_eq_true rfl⟩) (pV hS hAlo hlo hP hK (va_Dlo hD hAlo) hZ [0, 1, 2, 3, 4, 5, 6, 7] (by decide) rfl (ci := 8) (q := (RX8, TX8, 44)) (q0 := 0) rfl rfl) rfl rfl hl.1 rfl (lv_room (Nat.le_of_ble_eq_true rfl)) dX8_isAtRest_23 ⟨Nat.le_of_ble_eq_true rfl, Nat.le_of_ble_eq_true rfl⟩) hS hA hP hD [0, 1, 2, 3, 4, 5, 6, 7] [] rfl rfl (by decide) (by decide) (fun r_4 u H locs hw_4 hP hD hS => ?_)
      obtain ⟨br__4, fdoorsOf__4, er_4⟩ := u
      have hQ9 := pd_mk [((a 0), .inr (8, (fX8 a (nI tx) fp (nI t0) wd (nI we) nu na (nI rd) ts (nI ru) (nI rw) (nI ca) df db sd))), (aI k (a 1) 3 (nF dn)), (aI k (a 4) 27 (sg se tm gs)), (aI k (a 2) 72 ffrees), (aI k (a 3) 72 fprices), (aI k (a 36) 4 fwalks), (aI k (a 37) 4 (nF br__4)), (aI k (a 40) 4 fdoorsOf__4)] hP hD
      clear hP hD
      obtain ⟨hP, hD⟩ := hQ9
      try dsimp only at hw_4
      obtain ⟨rfl, her_5, hbe_5, hbu_5, hdw_5⟩ := hw_4
      have hbf_5 := funext hbe_5
      have hel_5 : er_4 ≤ dn sn := by rw [her_5]; exact bsF_le (by omega)
      refine lv_aload_n hx hb dX8_isAtRest_26 rfl (lv_at hl 2 rfl) ?_
      refine va_get (D := D) (ci := 8) (v := .ref (a 37)) (C := RX8) (T := TX8) (N := 44) hx hb hts inX8 hown hK hP 0 rfl rfl 36 (by decide) (hts _ tw_1009) (fun _ h9 => h9) rfl dX8_isAtRest_27 ?_
      refine lv_iload hx hb dX8_isAtRest_30 (lv_at hl 0 rfl) ?_
      refine va_iald hx hb hK hP 6 1 rfl rfl (vp_in_nI (by omega) (by decide)) dX8_isAtRest_32 ?_
      have hq_6 := hbu_5 cq_1
      refine lv_ti (y := (nI (br__4 cq_1))) (by rw [nI_clamp (by omega)]; rfl) ?_
      refine lv_icmp_ne (tgt := 40) hx hb dX8_isAtRest_33 (by decide) (fun c_7 => ?_) (fun c_7 => ?_)
      · have c_7 : ¬ (er_4 = (br__4 cq_1)) := fun h => c_7 ((nI_eq (a := er_4) (b := (br__4 cq_1)) (by omega) (by omega)).mpr h)
        refine lv_iconst (v := 0) hx hb dX8_isAtRest_40 (by decide) ?_
        refine lv_istore_n (lv' := [(3, .int 0), (4, .int (nI cq_1)), (0, .ref (a 0)), (1, .int (nI sn)), (2, .int (nI se9))]) hx hb dX8_isAtRest_41 rfl hl (by decide) rfl (fun ls hl => ?_)
        refine lv_iinc (v := (nI (cq_1 + 1))) (lv' := [(4, .int (nI (cq_1 + 1))), (3, .int 0), (0, .ref (a 0)), (1, .int (nI sn)), (2, .int (nI se9))]) hx hb dX8_isAtRest_42 hl (k := 1) rfl (nI_add cq_1 1) (by decide) rfl (fun ls hl => ?_)
        refine lv_goto (tgt := 5) hx hb dX8_isAtRest_45 (by decide) ?_
        have hR_5 : bsF (dn sn) (kb (dn sn) se9 (fun c i => pD (sdM dn (sg se tm gs) ffrees fprices sn) (fwalks c) df (db * 1000) i) br cq_1) (br cq_1) = er_4 ∧ br__4 cq_1 = br cq_1 := by have h8 := her_5; rw [hv_1.2.2.1] at h8; exact ⟨h8.symm, by rw [hbf_5, hv_1.2.2.1]⟩
        exact ih_1 _ (cq_1 + 1, 0, br__4, fdoorsOf__4) _ _ _ (by omega) ⟨rfl, ⟨by omega, .inr ⟨rfl, fun q => absurd ((bsF_own (show br cq_1 ≤ dn sn from hbn cq_1 (by omega))).mpr (q cq_1 (by omega))) (by rw [hR_5.1, ← hR_5.2]; exact c_7)⟩, hbf_5.trans hv_1.2.2.1, hbu_5, hdw_5⟩, hP, hD, hS, (lv_sub hl [0, 1, 2, 3, 4] rfl)⟩
      · have c_7 := (nI_eq (a := er_4) (b := (br__4 cq_1)) (by omega) (by omega)).mp c_7
        refine lv_iconst (v := 1) hx hb dX8_isAtRest_36 (by decide) ?_
        refine lv_goto (tgt := 41) hx hb dX8_isAtRest_37 (by decide) ?_
        refine lv_istore_n (lv' := [(3, .int 1), (4, .int (nI cq_1)), (0, .ref (a 0)), (1, .int (nI sn)), (2, .int (nI se9))]) hx hb dX8_isAtRest_41 rfl hl (by decide) rfl (fun ls hl => ?_)
        refine lv_iinc (v := (nI (cq_1 + 1))) (lv' := [(4, .int (nI (cq_1 + 1))), (3, .int 1), (0, .ref (a 0)), (1, .int (nI sn)), (2, .int (nI se9))]) hx hb dX8_isAtRest_42 hl (k := 1) rfl (nI_add cq_1 1) (by decide) rfl (fun ls hl => ?_)
        refine lv_goto (tgt := 5) hx hb dX8_isAtRest_45 (by decide) ?_
        have hR_5 : bsF (dn sn) (kb (dn sn) se9 (fun c i => pD (sdM dn (sg se tm gs) ffrees fprices sn) (fwalks c) df (db * 1000) i) br cq_1) (br cq_1) = er_4 ∧ br__4 cq_1 = br cq_1 := by have h8 := her_5; rw [hv_1.2.2.1] at h8; exact ⟨h8.symm, by rw [hbf_5, hv_1.2.2.1]⟩
        exact ih_1 _ (cq_1 + 1, 1, br__4, fdoorsOf__4) _ _ _ (by omega) ⟨rfl, ⟨by omega, .inl ⟨rfl, fun k hk => by rcases (show k = cq_1 ∨ k < cq_1 by omega) with e | e; rw [e]; exact (bsF_own (show br cq_1 ≤ dn sn from hbn cq_1 (by omega))).mp (by rw [hR_5.1, c_7, hR_5.2]); exact his_1 k e⟩, hbf_5.trans hv_1.2.2.1, hbu_5, hdw_5⟩, hP, hD, hS, (lv_sub hl [0, 1, 2, 3, 4] rfl)⟩

theorem f_glueP33 : True := trivial
/-! parking: the reference's answers -/
theorem in0m {d j : Nat} (hj : j < d) (hd : d ≤ 16777216) : inB (nI j) 0 (nI d - 1) := by
  refine ⟨nI_ge0 (by omega), ?_⟩
  show nI j ≤ nI d - nI 1
  rw [pk_sub (by omega)]
  exact (nI_leI (by omega) (by omega)).mpr (by omega)
theorem nge_m1 {t : Nat} (h : t < 2 ^ 31) : ¬ nI t < -1 := Int32.not_lt.mpr (Int32.le_trans (show (-1 : Int32) ≤ 0 by decide) (nI_ge0 h))
theorem ch_a {n S c d : Nat} {K : Nat → Nat → Int32} {x : Nat → Nat} {ch : Int32} {P : Prop} (h : (P → chP n S K x d ch) ∧ (¬ P → chP n S K x d 1)) (h0 : chP n S K x c ch) (hc : ¬ ch = 0) : chP n S K x d 1 := by
  have e : ch = 1 := h0.elim (fun q => q.1) (fun q => absurd q.1 hc)
  rcases Classical.em P with q | q
  · have k := h.1 q
    rw [e] at k
    exact k
  · exact h.2 q
theorem ch_c {n S d : Nat} {K : Nat → Nat → Int32} {x : Nat → Nat} {ch : Int32} (h : chP n S K x d ch) (hc : ch = 0) : chP n S K x d 0 := by
  rw [hc] at h
  exact h
theorem pD_00 {d : SDt} {w pd : Int32} {i : Nat} : pD d w pd (0 * 1000) i = pD d w 0 0 i := by
  unfold pD
  rw [Int32.zero_mul, ite_self, ite_self]
theorem pD_0C {d : SDt} {w pd : Int32} {i : Nat} : pD d w pd (0 * 1000) i = pC d w i := by
  unfold pD
  rw [Int32.zero_mul, ite_self, Int32.add_zero]
theorem m1000 {a : Nat} : nI a * 1000 = nI (a * 1000) := pk_mul a 1000
theorem ar_m {S cc n : Nat} {w : Nat → Int32} {d : SDt} {K : Nat → Nat → Int32} {r : Int32} (hn : d.1 = n) (h24 : n ≤ 24) (h : S < 2 ^ n) (hc : ¬ 2 < cc) (hK : ∀ c, c < cc → ∀ i, i ≤ n → K c i = pD d (w c) 0 0 i) (hr : r = nI (crO (rsA n cc S K) (crM 1 cc n + 1) (crM 0 cc n + 1))) : arA (nI S) cc w d r := by
  have hb := pw31 h24
  refine ⟨fun q => absurd ⟨S, by rw [hn]; exact h, rfl⟩ q, fun T h1 h2 => ⟨fun q => absurd q hc, fun _ => ?_⟩⟩
  rw [hn] at h1
  have e := nI_inj (by omega) (by omega) h2
  subst e
  rw [hr, hn, rsA_congr (J := fun c i => pD d (w c) 0 0 i) hK]
theorem md_m {S cc n x : Nat} {w : Nat → Int32} {d : SDt} {K : Nat → Nat → Nat → Int32} {K0 : Nat → Nat → Int32} {r : Int32} (hn : d.1 = n) (h24 : n ≤ 24) (hc : cc ≤ 4) (h : S < 2 ^ n) (hK : ∀ q, q < 21 → ∀ k, k < cc → ∀ i, i ≤ n → K q k i = pD d (w k) (nI x) (nI (10 * q * 1000)) i) (h0 : ∀ k, k < cc → ∀ i, i ≤ n → K0 k i = pC d (w k) i) (hr : mdP n S cc K K0 r) : mdA (nI S) cc w d x r := by
  have hb := pw31 h24
  refine ⟨fun q => absurd ⟨S, by rw [hn]; exact h, rfl⟩ q, fun T h1 h2 => ?_⟩
  rw [hn] at h1 ⊢
  have e := nI_inj (by omega) (by omega) h2
  subst e
  exact mdP_tr hc hK h0 hr
theorem tq_fun2 {sd se : Nat → SDt} {p0 r q : Int32} {F G : SDt → Int32 → Prop} (hF : ∀ d x y, F d x → G d y → x = y) (h : tqP sd p0 F r) (g : tqP se p0 G q) (e : ∀ i, i < 3 → sd i = se i) : r = q := by
  rcases Classical.em (∃ s, s < 3 ∧ p0 = nI s ∧ 0 < (sd s).1) with ⟨s, h1, h2, h3⟩ | hn
  · have a := h.2 s h1 h2 h3
    have b := g.2 s h1 h2 (by rw [← e s h1]; exact h3)
    rw [← e s h1] at b
    exact hF _ _ _ a b
  · have a := h.1 (fun s h1 h2 h3 => hn ⟨s, h1, h2, h3⟩)
    have b := g.1 (fun s h1 h2 h3 => hn ⟨s, h1, h2, by rw [e s h1]; exact h3⟩)
    exact a.trans b.symm
theorem dq_fun2 {sd se : Nat → SDt} {p0 p1 r q : Int32} {F G : SDt → Nat → Int32 → Prop} (hF : ∀ d i x y, F d i x → G d i y → x = y) (h : dqP sd p0 p1 F r) (g : dqP se p0 p1 G q) (e : ∀ i, i < 3 → sd i = se i) : r = q := by
  rcases Classical.em (∃ s i, s < 3 ∧ p0 = nI s ∧ p1 = nI i ∧ i < (sd s).1) with ⟨s, i, h1, h2, h3, h4⟩ | hn
  · have a := h.2 s h1 h2 i h3 h4
    have b := g.2 s h1 h2 i h3 (by rw [← e s h1]; exact h4)
    rw [← e s h1] at b
    exact hF _ _ _ _ a b
  · have a := h.1 (fun s h1 h2 i h3 h4 => hn ⟨s, i, h1, h2, h3, h4⟩)
    have b := g.1 (fun s h1 h2 i h3 h4 => hn ⟨s, i, h1, h2, h3, by rw [e s h1]; exact h4⟩)
    exact a.trans b.symm


set_option maxHeartbeats 4000000 in
set_option maxRecDepth 100000 in
theorem n_isSet (l : Launch) (D : va_G) (k : Nat → ClassId) (st : Nat → Nat) (lo : Nat) (a : Nat → Nat) (tx : Nat) (t0 : Nat) (we : Nat) (rd : Nat) (ru : Nat) (rw : Nat) (ca : Nat) (fp : Int32) (wd : Int64) (nu : Int32) (na : Int32) (ts : Int32) (df : Int32) (db : Int32) (sd : Int32) (dn : Nat → Nat) (sn : Nat) (p1 : Int32) (hdn : ∀ j, dn j ≤ 24) (hs : sn < 3) : CRi l D k st lo yX8_isSet cX8_isSet 3 (some .boolean) ({ frames := 1, cells := 0, slots := 0, locals := 25 }) [.ref (a 0), .int (nI sn), .int p1] [((a 0), .inr (8, (fX8 a (nI tx) fp (nI t0) wd (nI we) nu na (nI rd) ts (nI ru) (nI rw) (nI ca) df db sd))), (aI k (a 1) 3 (nF dn))] (fun r => (r = 1 ∧ ∃ S : Nat, S < 2 ^ dn sn ∧ p1 = nI S) ∨ (r = 0 ∧ ∀ S : Nat, S < 2 ^ dn sn → ¬ p1 = nI S)) := by
  intro sz
  refine Met.ofW (cc := cX8_isSet) (maxL := 3) (ret := (some .boolean)) (by decide) rfl ?_
  intro p e s m args below meth c s₁ B hml hv
  obtain ⟨rfl, hsz, hlo, hP, hK, hDL, hZ⟩ := hv
  have hx := B.exec
  have hb := B.bytes
  have hr := B.returns
  have hts := WS_ts B.pre
  have hown : s.vm.findClass RX8 = some m.cls := findClass_of_methodNamed B.named
  have hlocks := B.notSynchronized
  subst hsz
  have hA : ∀ q : Nat, s.heap.size ≤ q → (fun q : Nat => s.heap.size ≤ q) q := fun _ h => h
  have hAlo : ∀ q : Nat, (fun q : Nat => s.heap.size ≤ q) q → lo ≤ q := fun q h => Nat.le_trans hlo h
  have hS : va_S (fun q : Nat => s.heap.size ≤ q) s.heap s.heap [] := va_S.rf
  have hl := lv_entry ([.ref (a 0), .int (nI sn), .int p1]) (n := 3) (Nat.le_of_ble_eq_true rfl)
  rw [lg_entry_eq]
  generalize (lg_sl ([.ref (a 0), .int (nI sn), .int p1]) ++ List.replicate (3 - (lg_sl ([.ref (a 0), .int (nI sn), .int p1])).length) Slot.unset).toArray = ls at hl ⊢
  have hl : lv_has ls 3 [(0, .ref (a 0)), (1, .int (nI sn)), (2, .int p1)] := hl
  have hd_9 := hdn sn
  have hpw_9 := pw31 hd_9
  refine lv_iload_n hx hb dX8_isSet_0 rfl (lv_at hl 2 rfl) ?_
  refine lv_i2l (v := p1.toInt64) hx hb dX8_isSet_1 rfl ?_
  refine lv_lconst (v := (0 : Int32).toInt64) hx hb dX8_isSet_2 (by decide) ?_
  refine lv_iconst (v := 1) hx hb dX8_isSet_3 (by decide) ?_
  refine lv_aload_n hx hb dX8_isSet_4 rfl (lv_at hl 0 rfl) ?_
  refine va_get (D := D) (ci := 8) (v := .ref (a 1)) (C := RX8) (T := TX8) (N := 44) hx hb hts inX8 hown hK hP 0 rfl rfl 0 (by decide) (hts _ tw_973) (fun _ h9 => h9) rfl dX8_isSet_5 ?_
  refine lv_iload_n hx hb dX8_isSet_8 rfl (lv_at hl 1 rfl) ?_
  refine va_iald hx hb hK hP 1 1 rfl rfl (vp_in_nI (by omega) (by decide)) dX8_isSet_9 ?_
  refine lv_ti (y := (nI (dn sn))) (by rw [nI_clamp (by omega)]; rfl) ?_
  refine lv_ishl hx hb dX8_isSet_10 ?_
  refine lv_ti (y := (nI (2 ^ (dn sn)))) (shl25 _ (by omega)) ?_
  refine lv_iconst (v := 1) hx hb dX8_isSet_11 (by decide) ?_
  refine lv_isub hx hb dX8_isSet_12 ?_
  refine lv_topi (fun x_1 ex_1 => ?_)
  refine lv_i2l (v := x_1.toInt64) hx hb dX8_isSet_13 rfl ?_
  refine ro_i (D := D) (va_runS (As := [.long (p1.toInt64), .long ((0 : Int32).toInt64), .long (x_1.toInt64)]) (rest := []) ⟨hx, hb, hml, hown, hts⟩ ((k_in l D k st lo p1 (0 : Int32) x_1) s.heap.size) (va_cwS 3 hts (gS tw_1111 tw_1112 tw_87 tw_1113) rfl rfl rfl (by decide +kernel) ⟨Nat.le_of_ble_eq_true rfl, Nat.le_of_ble_eq_true rfl⟩) (pS hS hAlo hlo hP hK hDL hZ [] (by decide) rfl) rfl rfl hl.1 rfl (lv_room (Nat.le_of_ble_eq_true rfl)) dX8_isSet_14 ⟨Nat.le_of_ble_eq_true rfl, Nat.le_of_ble_eq_true rfl⟩) hS hA hP (fun r_2 H locs hw_2 hP hS => ?_)
  try dsimp only at hw_2
  rcases hw_2 with ⟨rfl, hw_2⟩ | ⟨rfl, hw_2⟩
  · exact W.zret (v := 1) (ty := .boolean) hx hb hr rfl (fun t ht hW => ⟨⟨1, (), rfl, .inl ⟨rfl, (by rw [ex_1] at hw_2; exact inB_of1 (by omega) hw_2)⟩, trivial⟩, hS.F ht⟩) hS.2.2 dX8_isSet_17
  · exact W.zret (v := 0) (ty := .boolean) hx hb hr rfl (fun t ht hW => ⟨⟨0, (), rfl, .inr ⟨rfl, fun S hS e => hw_2 (by rw [e, ex_1]; exact in0m hS hpw_9)⟩, trivial⟩, hS.F ht⟩) hS.2.2 dX8_isSet_17


set_option maxHeartbeats 4000000 in
set_option maxRecDepth 100000 in
theorem n_turnAll (l : Launch) (D : va_G) (k : Nat → ClassId) (st : Nat → Nat) (lo : Nat) (a : Nat → Nat) (tx : Nat) (t0 : Nat) (we : Nat) (rd : Nat) (ru : Nat) (rw : Nat) (ca : Nat) (fp : Int32) (wd : Int64) (nu : Int32) (na : Int32) (ts : Int32) (df : Int32) (db : Int32) (sd : Int32) (dn : Nat → Nat) (se : Nat → Nat) (tm : Nat → Nat) (gs : Nat → Int32) (ffrees : Nat → Int32) (fprices : Nat → Int32) (fwalks : Nat → Int32) (br : Nat → Nat) (fdoorsOf : Nat → Int32) (sn : Nat) (se9 : Nat) (hdn : ∀ j, dn j ≤ 24) (hca : ca ≤ 4) (hbr : ∀ j, br j ≤ 24) (hs : sn < 3) (hdv : dvOK fdoorsOf) (hse9 : se9 < 2 ^ dn sn) (hb4 : le4 (dn sn) br) : CWi l D k st lo yX8_turnAll cX8_turnAll 7 (some .int) ({ frames := 6, cells := 0, slots := 0, locals := 145 }) 0 0 [.ref (a 0), .int (nI sn), .int (nI se9)] [((a 0), .inr (8, (fX8 a (nI tx) fp (nI t0) wd (nI we) nu na (nI rd) ts (nI ru) (nI rw) (nI ca) df db sd))), (aI k (a 1) 3 (nF dn)), (aI k (a 4) 27 (sg se tm gs)), (aI k (a 2) 72 ffrees), (aI k (a 3) 72 fprices), (aI k (a 36) 4 fwalks), (aI k (a 37) 4 (nF br)), (aI k (a 40) 4 fdoorsOf)] (fun (r : Int32) (u : (Nat → Nat) × (Nat → Int32)) => match u with | (br_, fdoorsOf_) => ¬ r < -1 ∧ gtP (tnT (dn sn) se9 (fun c i => pD (sdM dn (sg se tm gs) ffrees fprices sn) (fwalks c) df (db * 1000) i) ca) 50 br br_ ∧ (∀ j, br_ j ≤ 24) ∧ le4 (dn sn) br_ ∧ dvOK fdoorsOf_) (fun (u : (Nat → Nat) × (Nat → Int32)) => match u with | (br_, fdoorsOf_) => [((a 0), .inr (8, (fX8 a (nI tx) fp (nI t0) wd (nI we) nu na (nI rd) ts (nI ru) (nI rw) (nI ca) df db sd))), (aI k (a 1) 3 (nF dn)), (aI k (a 4) 27 (sg se tm gs)), (aI k (a 2) 72 ffrees), (aI k (a 3) 72 fprices), (aI k (a 36) 4 fwalks), (aI k (a 37) 4 (nF br_)), (aI k (a 40) 4 fdoorsOf_)]) := by
  intro sz
  refine Met.ofW (cc := cX8_turnAll) (maxL := 7) (ret := (some .int)) (by decide) rfl ?_
  intro p e s m args below meth c s₁ B hml hv
  obtain ⟨rfl, hsz, hlo, hP, hK, hDL, hZ⟩ := hv
  have hx := B.exec
  have hb := B.bytes
  have hr := B.returns
  have hts := WS_ts B.pre
  have hown : s.vm.findClass RX8 = some m.cls := findClass_of_methodNamed B.named
  have hlocks := B.notSynchronized
  subst hsz
  have hD := hDL.self (sz := s.heap.size)
  have hAlo := A_lo hDL hlo
  generalize hAe : va_A [((a 0), .inr (8, (fX8 a (nI tx) fp (nI t0) wd (nI we) nu na (nI rd) ts (nI ru) (nI rw) (nI ca) df db sd))), (aI k (a 1) 3 (nF dn)), (aI k (a 4) 27 (sg se tm gs)), (aI k (a 2) 72 ffrees), (aI k (a 3) 72 fprices), (aI k (a 36) 4 fwalks), (aI k (a 37) 4 (nF br)), (aI k (a 40) 4 fdoorsOf)] s.heap.size = A at hD hAlo ⊢
  have hA : ∀ q : Nat, s.heap.size ≤ q → A q := fun q h => by rw [← hAe]; exact Or.inr h
  have hS : va_S A s.heap s.heap [] := va_S.rf
  have hl := lv_entry ([.ref (a 0), .int (nI sn), .int (nI se9)]) (n := 7) (Nat.le_of_ble_eq_true rfl)
  rw [lg_entry_eq]
  generalize (lg_sl ([.ref (a 0), .int (nI sn), .int (nI se9)]) ++ List.replicate (7 - (lg_sl ([.ref (a 0), .int (nI sn), .int (nI se9)])).length) Slot.unset).toArray = ls at hl ⊢
  have hl : lv_has ls 7 [(0, .ref (a 0)), (1, .int (nI sn)), (2, .int (nI se9))] := hl
  have hd_9 := hdn sn
  refine lv_iconst (v := 0) hx hb dX8_turnAll_0 (by decide) ?_
  refine lv_istore_n (lv' := [(3, .int 0), (0, .ref (a 0)), (1, .int (nI sn)), (2, .int (nI se9))]) hx hb dX8_turnAll_1 rfl hl (by decide) rfl (fun ls hl => ?_)
  refine W_loop (σ := Nat × (Nat → Nat) × (Nat → Int32)) (fun (n_ : Nat) (x_ : Nat × (Nat → Nat) × (Nat → Int32)) (H : Heap) (locs : List Loc) (ls : Array Slot) => match x_ with | (tt_1, b2_1, fd_1) => n_ = 51 - tt_1 ∧ (tt_1 ≤ 50 ∧ (∀ z, gtP (tnT (dn sn) se9 (fun c i => pD (sdM dn (sg se tm gs) ffrees fprices sn) (fwalks c) df (db * 1000) i) ca) (50 - tt_1) b2_1 z → gtP (tnT (dn sn) se9 (fun c i => pD (sdM dn (sg se tm gs) ffrees fprices sn) (fwalks c) df (db * 1000) i) ca) 50 br z) ∧ le4 (dn sn) b2_1 ∧ (∀ j, b2_1 j ≤ 24) ∧ dvOK fd_1) ∧ va_P D classes [((a 0), .inr (8, (fX8 a (nI tx) fp (nI t0) wd (nI we) nu na (nI rd) ts (nI ru) (nI rw) (nI ca) df db sd))), (aI k (a 1) 3 (nF dn)), (aI k (a 4) 27 (sg se tm gs)), (aI k (a 2) 72 ffrees), (aI k (a 3) 72 fprices), (aI k (a 36) 4 fwalks), (aI k (a 37) 4 (nF b2_1)), (aI k (a 40) 4 fd_1)] H ∧ va_D A [((a 0), .inr (8, (fX8 a (nI tx) fp (nI t0) wd (nI we) nu na (nI rd) ts (nI ru) (nI rw) (nI ca) df db sd))), (aI k (a 1) 3 (nF dn)), (aI k (a 4) 27 (sg se tm gs)), (aI k (a 2) 72 ffrees), (aI k (a 3) 72 fprices), (aI k (a 36) 4 fwalks), (aI k (a 37) 4 (nF b2_1)), (aI k (a 40) 4 fd_1)] ∧ va_S A s.heap H locs ∧ lv_has ls 7 [(3, .int (nI tt_1)), (0, .ref (a 0)), (1, .int (nI sn)), (2, .int (nI se9))]) (fun n_1 x_1 H locs ls hI ih_1 => ?_) _ (0, br, fdoorsOf) ⟨rfl, ⟨by omega, fun _ h => h, hb4, hbr, hdv⟩, hP, hD, hS, (lv_sub hl [0, 1, 2, 3] rfl)⟩
  obtain ⟨tt_1, b2_1, fd_1⟩ := x_1
  obtain ⟨hm_1, hv_1, hP, hD, hS, hl⟩ := hI
  subst hm_1
  have hbl_1 := hv_1.2.2.2.1
  have hdvl_1 := hv_1.2.2.2.2
  refine lv_iload_n hx hb dX8_turnAll_2 rfl (lv_at hl 0 rfl) ?_
  refine lv_bipush (v := 50) hx hb dX8_turnAll_3 (by decide) ?_
  refine lv_icmp_ge (tgt := 85) hx hb dX8_turnAll_5 (by decide) (fun c_2 => ?_) (fun c_2 => ?_)
  · have c_2 := (nI_leI (a := 50) (b := tt_1) (by omega) (by omega)).mp c_2
    refine lv_iconst (v := (-1)) hx hb dX8_turnAll_85 (by decide) ?_
    obtain ⟨hP9, hD9⟩ := pd_sub [((a 0), .inr (8, (fX8 a (nI tx) fp (nI t0) wd (nI we) nu na (nI rd) ts (nI ru) (nI rw) (nI ca) df db sd))), (aI k (a 1) 3 (nF dn)), (aI k (a 4) 27 (sg se tm gs)), (aI k (a 2) 72 ffrees), (aI k (a 3) 72 fprices), (aI k (a 36) 4 fwalks), (aI k (a 37) 4 (nF b2_1)), (aI k (a 40) 4 fd_1)] [0, 1, 2, 3, 4, 5, 6, 7] hP hD (by decide) rfl
    exact W.iret (v := (-1)) hx hb hr (fun t ht hW => ⟨⟨(-1), (b2_1, fd_1), rfl, ⟨by decide, hv_1.2.1 _ (by rw [show 50 - tt_1 = 0 by omega]; exact eq4_r _), hv_1.2.2.2.1, hv_1.2.2.1, hv_1.2.2.2.2⟩, by rw [ht]; exact hP9, hD9⟩, hS.F ht⟩) hS.2.2 dX8_turnAll_86
  · have c_2 : ¬ (50 ≤ tt_1) := fun h => c_2 ((nI_leI (a := 50) (b := tt_1) (by omega) (by omega)).mpr h)
    refine lv_iconst (v := 0) hx hb dX8_turnAll_8 (by decide) ?_
    refine lv_istore (lv' := [(4, .int 0), (3, .int (nI tt_1)), (0, .ref (a 0)), (1, .int (nI sn)), (2, .int (nI se9))]) hx hb dX8_turnAll_9 hl (by decide) rfl (fun ls hl => ?_)
    refine lv_iconst (v := 0) hx hb dX8_turnAll_11 (by decide) ?_
    refine lv_istore (lv' := [(5, .int 0), (4, .int 0), (3, .int (nI tt_1)), (0, .ref (a 0)), (1, .int (nI sn)), (2, .int (nI se9))]) hx hb dX8_turnAll_12 hl (by decide) rfl (fun ls hl => ?_)
    refine W_loop (σ := Nat × Int32 × (Nat → Nat) × (Nat → Int32)) (fun (n_ : Nat) (x_ : Nat × Int32 × (Nat → Nat) × (Nat → Int32)) (H : Heap) (locs : List Loc) (ls : Array Slot) => match x_ with | (cq_3, ch_3, b3_3, fd3_3) => n_ = 5 - cq_3 ∧ (cq_3 ≤ ca ∧ eq4 b3_3 (tnB (dn sn) se9 (fun c i => pD (sdM dn (sg se tm gs) ffrees fprices sn) (fwalks c) df (db * 1000) i) b2_1 cq_3) ∧ chP (dn sn) se9 (fun c i => pD (sdM dn (sg se tm gs) ffrees fprices sn) (fwalks c) df (db * 1000) i) b2_1 cq_3 ch_3 ∧ (∀ j, b3_3 j ≤ 24) ∧ dvOK fd3_3) ∧ va_P D classes [((a 0), .inr (8, (fX8 a (nI tx) fp (nI t0) wd (nI we) nu na (nI rd) ts (nI ru) (nI rw) (nI ca) df db sd))), (aI k (a 1) 3 (nF dn)), (aI k (a 4) 27 (sg se tm gs)), (aI k (a 2) 72 ffrees), (aI k (a 3) 72 fprices), (aI k (a 36) 4 fwalks), (aI k (a 37) 4 (nF b3_3)), (aI k (a 40) 4 fd3_3)] H ∧ va_D A [((a 0), .inr (8, (fX8 a (nI tx) fp (nI t0) wd (nI we) nu na (nI rd) ts (nI ru) (nI rw) (nI ca) df db sd))), (aI k (a 1) 3 (nF dn)), (aI k (a 4) 27 (sg se tm gs)), (aI k (a 2) 72 ffrees), (aI k (a 3) 72 fprices), (aI k (a 36) 4 fwalks), (aI k (a 37) 4 (nF b3_3)), (aI k (a 40) 4 fd3_3)] ∧ va_S A s.heap H locs ∧ lv_has ls 7 [(5, .int (nI cq_3)), (4, .int ch_3), (3, .int (nI tt_1)), (0, .ref (a 0)), (1, .int (nI sn)), (2, .int (nI se9))]) (fun n_3 x_3 H locs ls hI ih_3 => ?_) _ (0, 0, b2_1, fd_1) ⟨rfl, ⟨by omega, fun _ _ => rfl, .inr ⟨rfl, fun j h => absurd h (Nat.not_lt_zero j)⟩, hbl_1, hdvl_1⟩, hP, hD, hS, (lv_sub hl [0, 1, 2, 3, 4, 5] rfl)⟩
    obtain ⟨cq_3, ch_3, b3_3, fd3_3⟩ := x_3
    obtain ⟨hm_3, hv_3, hP, hD, hS, hl⟩ := hI
    subst hm_3
    have hbl_3 := hv_3.2.2.2.1
    have hdvl_3 := hv_3.2.2.2.2
    refine lv_iload hx hb dX8_turnAll_14 (lv_at hl 0 rfl) ?_
    refine lv_aload_n hx hb dX8_turnAll_16 rfl (lv_at hl 3 rfl) ?_
    refine va_get (D := D) (ci := 8) (v := .int (nI ca)) (C := RX8) (T := TX8) (N := 44) hx hb hts inX8 hown hK hP 0 rfl rfl 34 (by decide) (hts _ tw_1007) (fun _ h9 => h9) rfl dX8_turnAll_17 ?_
    refine lv_icmp_ge (tgt := 72) hx hb dX8_turnAll_20 (by decide) (fun c_4 => ?_) (fun c_4 => ?_)
    · have c_4 := (nI_leI (a := ca) (b := cq_3) (by omega) (by omega)).mp c_4
      have hct_5 : eq4 b3_3 (tnT (dn sn) se9 (fun c i => pD (sdM dn (sg se tm gs) ffrees fprices sn) (fwalks c) df (db * 1000) i) ca b2_1) := by have h9 := hv_3.2.1; rw [show cq_3 = ca by omega] at h9; exact h9
      have hce_5 := ch_end (show cq_3 ≤ 4 by omega) hv_3.2.2.1
      rw [show cq_3 = ca by omega] at hce_5
      have hl4_5 : le4 (dn sn) b3_3 := le4_e (tnT_le (S := se9) (K := (fun c i => pD (sdM dn (sg se tm gs) ffrees fprices sn) (fwalks c) df (db * 1000) i)) hca _ hv_1.2.2.1) (eq4_s hct_5)
      refine lv_iload hx hb dX8_turnAll_72 (lv_at hl 1 rfl) ?_
      refine lv_if_ne (tgt := 79) hx hb dX8_turnAll_74 (by decide) (fun c_6 => ?_) (fun c_6 => ?_)
      · refine lv_iinc (v := (nI (tt_1 + 1))) (lv' := [(3, .int (nI (tt_1 + 1))), (5, .int (nI cq_3)), (4, .int ch_3), (0, .ref (a 0)), (1, .int (nI sn)), (2, .int (nI se9))]) hx hb dX8_turnAll_79 hl (k := 2) rfl (nI_add tt_1 1) (by decide) rfl (fun ls hl => ?_)
        refine lv_goto (tgt := 2) hx hb dX8_turnAll_82 (by decide) ?_
        exact ih_1 _ (tt_1 + 1, b3_3, fd3_3) _ _ _ (by omega) ⟨rfl, ⟨by omega, fun z h => hv_1.2.1 z (by rw [show 50 - tt_1 = (50 - (tt_1 + 1)) + 1 by omega]; exact gt_more (tnT_le hca) (tnT_e hca (fun _ _ _ _ => rfl)) hv_1.2.2.1 hl4_5 (hce_5.elim (fun q => q.2) (fun q => absurd q.1 c_6)) hct_5 h), hl4_5, hbl_3, hdvl_3⟩, hP, hD, hS, (lv_sub hl [0, 3, 4, 5] rfl)⟩
      · refine lv_iload_n hx hb dX8_turnAll_77 rfl (lv_at hl 2 rfl) ?_
        obtain ⟨hP9, hD9⟩ := pd_sub [((a 0), .inr (8, (fX8 a (nI tx) fp (nI t0) wd (nI we) nu na (nI rd) ts (nI ru) (nI rw) (nI ca) df db sd))), (aI k (a 1) 3 (nF dn)), (aI k (a 4) 27 (sg se tm gs)), (aI k (a 2) 72 ffrees), (aI k (a 3) 72 fprices), (aI k (a 36) 4 fwalks), (aI k (a 37) 4 (nF b3_3)), (aI k (a 40) 4 fd3_3)] [0, 1, 2, 3, 4, 5, 6, 7] hP hD (by decide) rfl
        exact W.iret (v := (nI tt_1)) hx hb hr (fun t ht hW => ⟨⟨(nI tt_1), (b3_3, fd3_3), rfl, ⟨nge_m1 (show tt_1 < 2 ^ 31 by omega), hv_1.2.1 _ (by rw [show 50 - tt_1 = (49 - tt_1) + 1 by omega]; exact gt_stop (hce_5.elim (fun q => absurd (q.1.symm.trans c_6) (by decide)) (fun q => q.2)) hct_5), hbl_3, hl4_5, hdvl_3⟩, by rw [ht]; exact hP9, hD9⟩, hS.F ht⟩) hS.2.2 dX8_turnAll_78
    · have c_4 : ¬ (ca ≤ cq_3) := fun h => c_4 ((nI_leI (a := ca) (b := cq_3) (by omega) (by omega)).mpr h)
      have hbq_3 : b3_3 cq_3 ≤ dn sn := by rw [hv_3.2.1 cq_3 (by omega), tnB_hi cq_3 cq_3 (Nat.le_refl _)]; exact hv_1.2.2.1 cq_3 (by omega)
      refine lv_aload_n hx hb dX8_turnAll_23 rfl (lv_at hl 3 rfl) ?_
      refine lv_iload_n hx hb dX8_turnAll_24 rfl (lv_at hl 4 rfl) ?_
      refine lv_iload_n hx hb dX8_turnAll_25 rfl (lv_at hl 5 rfl) ?_
      refine lv_iload hx hb dX8_turnAll_26 (lv_at hl 0 rfl) ?_
      refine rw_i (D := D) (wr := []) (va_runV (As := [.int (nI sn), .int (nI se9), .int (nI cq_3)]) (rest := []) ⟨hx, hb, hml, hown, hts⟩ ((n_bestBar l D k st lo a tx t0 we rd ru rw ca fp wd nu na ts df db sd dn se tm gs ffrees fprices fwalks b3_3 fd3_3 sn se9 cq_3 hdn (by first | assumption | omega) hbl_3 (by first | assumption | omega) (by first | assumption | omega) hdvl_3 (by first | assumption | omega) (by first | assumption | omega)) H.size) (cwV 3 hts (gV tw_1414 tw_1416 tw_69 tw_87 tw_1417) rfl rfl rfl (by decide +kernel) ⟨Nat.le_of_ble_eq_true rfl, Nat.le_of_ble_eq_true rfl⟩) (pV hS hAlo hlo hP hK (va_Dlo hD hAlo) hZ [0, 1, 2, 3, 4, 5, 6, 7] (by decide) rfl (ci := 8) (q := (RX8, TX8, 44)) (q0 := 0) rfl rfl) rfl rfl hl.1 rfl (lv_room (Nat.le_of_ble_eq_true rfl)) dX8_turnAll_28 ⟨Nat.le_of_ble_eq_true rfl, Nat.le_of_ble_eq_true rfl⟩) hS hA hP hD [0, 1, 2, 3, 4, 5, 6, 7] [] rfl rfl (by decide) (by decide) (fun r_7 u H locs hw_7 hP hD hS => ?_)
      obtain ⟨br__7, fdoorsOf__7, er_7⟩ := u
      have hQ9 := pd_mk [((a 0), .inr (8, (fX8 a (nI tx) fp (nI t0) wd (nI we) nu na (nI rd) ts (nI ru) (nI rw) (nI ca) df db sd))), (aI k (a 1) 3 (nF dn)), (aI k (a 4) 27 (sg se tm gs)), (aI k (a 2) 72 ffrees), (aI k (a 3) 72 fprices), (aI k (a 36) 4 fwalks), (aI k (a 37) 4 (nF br__7)), (aI k (a 40) 4 fdoorsOf__7)] hP hD
      clear hP hD
      obtain ⟨hP, hD⟩ := hQ9
      try dsimp only at hw_7
      obtain ⟨rfl, her_8, hbe_8, hbu_8, hdw_8⟩ := hw_7
      have hbf_8 := funext hbe_8
      have hel_8 : er_7 ≤ dn sn := by rw [her_8]; exact bsF_le (by omega)
      refine lv_istore (lv' := [(6, .int (nI er_7)), (5, .int (nI cq_3)), (4, .int ch_3), (3, .int (nI tt_1)), (0, .ref (a 0)), (1, .int (nI sn)), (2, .int (nI se9))]) hx hb dX8_turnAll_31 hl (by decide) rfl (fun ls hl => ?_)
      refine lv_iload hx hb dX8_turnAll_33 (lv_at hl 2 rfl) ?_
      refine lv_if_ne (tgt := 50) hx hb dX8_turnAll_35 (by decide) (fun c_9 => ?_) (fun c_9 => ?_)
      · refine lv_iconst (v := 1) hx hb dX8_turnAll_50 (by decide) ?_
        refine lv_goto (tgt := 55) hx hb dX8_turnAll_51 (by decide) ?_
        refine lv_istore (lv' := [(4, .int 1), (6, .int (nI er_7)), (5, .int (nI cq_3)), (3, .int (nI tt_1)), (0, .ref (a 0)), (1, .int (nI sn)), (2, .int (nI se9))]) hx hb dX8_turnAll_55 hl (by decide) rfl (fun ls hl => ?_)
        refine lv_aload_n hx hb dX8_turnAll_57 rfl (lv_at hl 4 rfl) ?_
        refine va_get (D := D) (ci := 8) (v := .ref (a 37)) (C := RX8) (T := TX8) (N := 44) hx hb hts inX8 hown hK hP 0 rfl rfl 36 (by decide) (hts _ tw_1009) (fun _ h9 => h9) rfl dX8_turnAll_58 ?_
        refine lv_iload hx hb dX8_turnAll_61 (lv_at hl 2 rfl) ?_
        refine lv_iload hx hb dX8_turnAll_63 (lv_at hl 1 rfl) ?_
        refine va_iast hx hb hK hP hD hS 6 1 rfl rfl (vp_in_nI (by omega) (by decide)) dX8_turnAll_65 (fun H locs hP hD hS => ?_)
        have hQ9 := pd_mk [((a 0), .inr (8, (fX8 a (nI tx) fp (nI t0) wd (nI we) nu na (nI rd) ts (nI ru) (nI rw) (nI ca) df db sd))), (aI k (a 1) 3 (nF dn)), (aI k (a 4) 27 (sg se tm gs)), (aI k (a 2) 72 ffrees), (aI k (a 3) 72 fprices), (aI k (a 36) 4 fwalks), (aI k (a 37) 4 (upd (nF br__7) (Int32.toNatClampNeg (nI cq_3)) (nI er_7))), (aI k (a 40) 4 fdoorsOf__7)] hP hD
        clear hP hD
        obtain ⟨hP, hD⟩ := hQ9
        rw [nI_clamp (n := cq_3) (by omega)] at hP hD
        rw [show upd (nF br__7) cq_3 (nI er_7) = nF (fun j => if j = cq_3 then er_7 else br__7 j) from nF_upd _ _ _] at hP hD
        obtain ⟨d_11, hd_11⟩ : ∃ z : Nat → Nat, z = (fun j => if j = cq_3 then er_7 else br__7 j) := ⟨_, rfl⟩
        rw [← hd_11] at hP hD
        have hbb_11 : ∀ j, d_11 j ≤ 24 := by rw [hd_11]; exact up_le hbu_8 (by omega)
        refine lv_iinc (v := (nI (cq_3 + 1))) (lv' := [(5, .int (nI (cq_3 + 1))), (4, .int 1), (6, .int (nI er_7)), (3, .int (nI tt_1)), (0, .ref (a 0)), (1, .int (nI sn)), (2, .int (nI se9))]) hx hb dX8_turnAll_66 hl (k := 2) rfl (nI_add cq_3 1) (by decide) rfl (fun ls hl => ?_)
        refine lv_goto (tgt := 14) hx hb dX8_turnAll_69 (by decide) ?_
        have hts_12 := (tn_step (b3 := d_11) (lf := LF (dn sn) b3_3 se9 cq_3) (show cq_3 < 4 by omega) hv_3.2.1 rfl her_8 (fun j => by rw [hd_11, hbf_8])).1
        have hcs_12 := ch_st (show cq_3 < 4 by omega) hv_3.2.1 (tn_at (lf := 0) (zb := er_7) (b2 := b3_3) (show cq_3 < 4 by omega) hts_12 (fun j => by rw [hd_11, hbf_8])) hv_3.2.2.1
        exact ih_3 _ (cq_3 + 1, 1, d_11, fdoorsOf__7) _ _ _ (by omega) ⟨rfl, ⟨by omega, hts_12, ch_a hcs_12 hv_3.2.2.1 c_9, hbb_11, hdw_8⟩, hP, hD, hS, (lv_sub hl [0, 1, 3, 4, 5, 6] rfl)⟩
      · refine lv_iload hx hb dX8_turnAll_38 (lv_at hl 0 rfl) ?_
        refine lv_aload_n hx hb dX8_turnAll_40 rfl (lv_at hl 4 rfl) ?_
        refine va_get (D := D) (ci := 8) (v := .ref (a 37)) (C := RX8) (T := TX8) (N := 44) hx hb hts inX8 hown hK hP 0 rfl rfl 36 (by decide) (hts _ tw_1009) (fun _ h9 => h9) rfl dX8_turnAll_41 ?_
        refine lv_iload hx hb dX8_turnAll_44 (lv_at hl 1 rfl) ?_
        refine va_iald hx hb hK hP 6 1 rfl rfl (vp_in_nI (by omega) (by decide)) dX8_turnAll_46 ?_
        have hq_13 := hbu_8 cq_3
        refine lv_ti (y := (nI (br__7 cq_3))) (by rw [nI_clamp (by omega)]; rfl) ?_
        refine lv_icmp_eq (tgt := 54) hx hb dX8_turnAll_47 (by decide) (fun c_14 => ?_) (fun c_14 => ?_)
        · have c_14 := (nI_eq (a := er_7) (b := (br__7 cq_3)) (by omega) (by omega)).mp c_14
          refine lv_iconst (v := 0) hx hb dX8_turnAll_54 (by decide) ?_
          refine lv_istore (lv' := [(4, .int 0), (6, .int (nI er_7)), (5, .int (nI cq_3)), (3, .int (nI tt_1)), (0, .ref (a 0)), (1, .int (nI sn)), (2, .int (nI se9))]) hx hb dX8_turnAll_55 hl (by decide) rfl (fun ls hl => ?_)
          refine lv_aload_n hx hb dX8_turnAll_57 rfl (lv_at hl 4 rfl) ?_
          refine va_get (D := D) (ci := 8) (v := .ref (a 37)) (C := RX8) (T := TX8) (N := 44) hx hb hts inX8 hown hK hP 0 rfl rfl 36 (by decide) (hts _ tw_1009) (fun _ h9 => h9) rfl dX8_turnAll_58 ?_
          refine lv_iload hx hb dX8_turnAll_61 (lv_at hl 2 rfl) ?_
          refine lv_iload hx hb dX8_turnAll_63 (lv_at hl 1 rfl) ?_
          refine va_iast hx hb hK hP hD hS 6 1 rfl rfl (vp_in_nI (by omega) (by decide)) dX8_turnAll_65 (fun H locs hP hD hS => ?_)
          have hQ9 := pd_mk [((a 0), .inr (8, (fX8 a (nI tx) fp (nI t0) wd (nI we) nu na (nI rd) ts (nI ru) (nI rw) (nI ca) df db sd))), (aI k (a 1) 3 (nF dn)), (aI k (a 4) 27 (sg se tm gs)), (aI k (a 2) 72 ffrees), (aI k (a 3) 72 fprices), (aI k (a 36) 4 fwalks), (aI k (a 37) 4 (upd (nF br__7) (Int32.toNatClampNeg (nI cq_3)) (nI er_7))), (aI k (a 40) 4 fdoorsOf__7)] hP hD
          clear hP hD
          obtain ⟨hP, hD⟩ := hQ9
          rw [nI_clamp (n := cq_3) (by omega)] at hP hD
          rw [show upd (nF br__7) cq_3 (nI er_7) = nF (fun j => if j = cq_3 then er_7 else br__7 j) from nF_upd _ _ _] at hP hD
          obtain ⟨d_16, hd_16⟩ : ∃ z : Nat → Nat, z = (fun j => if j = cq_3 then er_7 else br__7 j) := ⟨_, rfl⟩
          rw [← hd_16] at hP hD
          have hbb_16 : ∀ j, d_16 j ≤ 24 := by rw [hd_16]; exact up_le hbu_8 (by omega)
          refine lv_iinc (v := (nI (cq_3 + 1))) (lv' := [(5, .int (nI (cq_3 + 1))), (4, .int 0), (6, .int (nI er_7)), (3, .int (nI tt_1)), (0, .ref (a 0)), (1, .int (nI sn)), (2, .int (nI se9))]) hx hb dX8_turnAll_66 hl (k := 2) rfl (nI_add cq_3 1) (by decide) rfl (fun ls hl => ?_)
          refine lv_goto (tgt := 14) hx hb dX8_turnAll_69 (by decide) ?_
          have hts_17 := (tn_step (b3 := d_16) (lf := LF (dn sn) b3_3 se9 cq_3) (show cq_3 < 4 by omega) hv_3.2.1 rfl her_8 (fun j => by rw [hd_16, hbf_8])).1
          have hcs_17 := ch_st (show cq_3 < 4 by omega) hv_3.2.1 (tn_at (lf := 0) (zb := er_7) (b2 := b3_3) (show cq_3 < 4 by omega) hts_17 (fun j => by rw [hd_16, hbf_8])) hv_3.2.2.1
          exact ih_3 _ (cq_3 + 1, 0, d_16, fdoorsOf__7) _ _ _ (by omega) ⟨rfl, ⟨by omega, hts_17, ch_c (hcs_17.1 (by have h9 := hbe_8 cq_3; omega)) c_9, hbb_16, hdw_8⟩, hP, hD, hS, (lv_sub hl [0, 1, 3, 4, 5, 6] rfl)⟩
        · have c_14 : ¬ (er_7 = (br__7 cq_3)) := fun h => c_14 ((nI_eq (a := er_7) (b := (br__7 cq_3)) (by omega) (by omega)).mpr h)
          refine lv_iconst (v := 1) hx hb dX8_turnAll_50 (by decide) ?_
          refine lv_goto (tgt := 55) hx hb dX8_turnAll_51 (by decide) ?_
          refine lv_istore (lv' := [(4, .int 1), (6, .int (nI er_7)), (5, .int (nI cq_3)), (3, .int (nI tt_1)), (0, .ref (a 0)), (1, .int (nI sn)), (2, .int (nI se9))]) hx hb dX8_turnAll_55 hl (by decide) rfl (fun ls hl => ?_)
          refine lv_aload_n hx hb dX8_turnAll_57 rfl (lv_at hl 4 rfl) ?_
          refine va_get (D := D) (ci := 8) (v := .ref (a 37)) (C := RX8) (T := TX8) (N := 44) hx hb hts inX8 hown hK hP 0 rfl rfl 36 (by decide) (hts _ tw_1009) (fun _ h9 => h9) rfl dX8_turnAll_58 ?_
          refine lv_iload hx hb dX8_turnAll_61 (lv_at hl 2 rfl) ?_
          refine lv_iload hx hb dX8_turnAll_63 (lv_at hl 1 rfl) ?_
          refine va_iast hx hb hK hP hD hS 6 1 rfl rfl (vp_in_nI (by omega) (by decide)) dX8_turnAll_65 (fun H locs hP hD hS => ?_)
          have hQ9 := pd_mk [((a 0), .inr (8, (fX8 a (nI tx) fp (nI t0) wd (nI we) nu na (nI rd) ts (nI ru) (nI rw) (nI ca) df db sd))), (aI k (a 1) 3 (nF dn)), (aI k (a 4) 27 (sg se tm gs)), (aI k (a 2) 72 ffrees), (aI k (a 3) 72 fprices), (aI k (a 36) 4 fwalks), (aI k (a 37) 4 (upd (nF br__7) (Int32.toNatClampNeg (nI cq_3)) (nI er_7))), (aI k (a 40) 4 fdoorsOf__7)] hP hD
          clear hP hD
          obtain ⟨hP, hD⟩ := hQ9
          rw [nI_clamp (n := cq_3) (by omega)] at hP hD
          rw [show upd (nF br__7) cq_3 (nI er_7) = nF (fun j => if j = cq_3 then er_7 else br__7 j) from nF_upd _ _ _] at hP hD
          obtain ⟨d_19, hd_19⟩ : ∃ z : Nat → Nat, z = (fun j => if j = cq_3 then er_7 else br__7 j) := ⟨_, rfl⟩
          rw [← hd_19] at hP hD
          have hbb_19 : ∀ j, d_19 j ≤ 24 := by rw [hd_19]; exact up_le hbu_8 (by omega)
          refine lv_iinc (v := (nI (cq_3 + 1))) (lv' := [(5, .int (nI (cq_3 + 1))), (4, .int 1), (6, .int (nI er_7)), (3, .int (nI tt_1)), (0, .ref (a 0)), (1, .int (nI sn)), (2, .int (nI se9))]) hx hb dX8_turnAll_66 hl (k := 2) rfl (nI_add cq_3 1) (by decide) rfl (fun ls hl => ?_)
          refine lv_goto (tgt := 14) hx hb dX8_turnAll_69 (by decide) ?_
          have hts_20 := (tn_step (b3 := d_19) (lf := LF (dn sn) b3_3 se9 cq_3) (show cq_3 < 4 by omega) hv_3.2.1 rfl her_8 (fun j => by rw [hd_19, hbf_8])).1
          have hcs_20 := ch_st (show cq_3 < 4 by omega) hv_3.2.1 (tn_at (lf := 0) (zb := er_7) (b2 := b3_3) (show cq_3 < 4 by omega) hts_20 (fun j => by rw [hd_19, hbf_8])) hv_3.2.2.1
          exact ih_3 _ (cq_3 + 1, 1, d_19, fdoorsOf__7) _ _ _ (by omega) ⟨rfl, ⟨by omega, hts_20, hcs_20.2 (by have h9 := hbe_8 cq_3; omega), hbb_19, hdw_8⟩, hP, hD, hS, (lv_sub hl [0, 1, 3, 4, 5, 6] rfl)⟩


set_option maxHeartbeats 4000000 in
set_option maxRecDepth 100000 in
theorem n_allRests (l : Launch) (D : va_G) (k : Nat → ClassId) (st : Nat → Nat) (lo : Nat) (a : Nat → Nat) (tx : Nat) (t0 : Nat) (we : Nat) (rd : Nat) (ru : Nat) (rw : Nat) (ca : Nat) (fp : Int32) (wd : Int64) (nu : Int32) (na : Int32) (ts : Int32) (df : Int32) (db : Int32) (sd : Int32) (dn : Nat → Nat) (se : Nat → Nat) (tm : Nat → Nat) (gs : Nat → Int32) (ffrees : Nat → Int32) (fprices : Nat → Int32) (fwalks : Nat → Int32) (br : Nat → Nat) (fdoorsOf : Nat → Int32) (wb : Nat → Nat) (p0 : Int32) (p1 : Int32) (hdn : ∀ j, dn j ≤ 24) (hca : ca ≤ 4) (hbr : ∀ j, br j ≤ 24) (hwb : ∀ j, wb j ≤ 24) (hdv : dvOK fdoorsOf) (hdb : db = 0) : CWi l D k st lo yX8_allRests cX8_allRests 7 (some .int) ({ frames := 7, cells := 0, slots := 0, locals := 169 }) 0 0 [.ref (a 0), .int p0, .int p1] [((a 0), .inr (8, (fX8 a (nI tx) fp (nI t0) wd (nI we) nu na (nI rd) ts (nI ru) (nI rw) (nI ca) df db sd))), (aI k (a 1) 3 (nF dn)), (aI k (a 4) 27 (sg se tm gs)), (aI k (a 2) 72 ffrees), (aI k (a 3) 72 fprices), (aI k (a 36) 4 fwalks), (aI k (a 37) 4 (nF br)), (aI k (a 40) 4 fdoorsOf), (aI k (a 41) 4 (nF wb))] (fun (r : Int32) (u : (Nat → Nat) × (Nat → Int32) × (Nat → Nat)) => match u with | (br_, fdoorsOf_, wb_) => tqP (sdM dn (sg se tm gs) ffrees fprices) p0 (arA p1 ca fwalks) r ∧ (∀ j, br_ j ≤ 24) ∧ dvOK fdoorsOf_ ∧ (∀ j, wb_ j ≤ 24)) (fun (u : (Nat → Nat) × (Nat → Int32) × (Nat → Nat)) => match u with | (br_, fdoorsOf_, wb_) => [((a 0), .inr (8, (fX8 a (nI tx) fp (nI t0) wd (nI we) nu na (nI rd) ts (nI ru) (nI rw) (nI ca) df db sd))), (aI k (a 1) 3 (nF dn)), (aI k (a 4) 27 (sg se tm gs)), (aI k (a 2) 72 ffrees), (aI k (a 3) 72 fprices), (aI k (a 36) 4 fwalks), (aI k (a 37) 4 (nF br_)), (aI k (a 40) 4 fdoorsOf_), (aI k (a 41) 4 (nF wb_))]) := by
  intro sz
  refine Met.ofW (cc := cX8_allRests) (maxL := 7) (ret := (some .int)) (by decide) rfl ?_
  intro p e s m args below meth c s₁ B hml hv
  obtain ⟨rfl, hsz, hlo, hP, hK, hDL, hZ⟩ := hv
  have hx := B.exec
  have hb := B.bytes
  have hr := B.returns
  have hts := WS_ts B.pre
  have hown : s.vm.findClass RX8 = some m.cls := findClass_of_methodNamed B.named
  have hlocks := B.notSynchronized
  subst hsz
  have hD := hDL.self (sz := s.heap.size)
  have hAlo := A_lo hDL hlo
  generalize hAe : va_A [((a 0), .inr (8, (fX8 a (nI tx) fp (nI t0) wd (nI we) nu na (nI rd) ts (nI ru) (nI rw) (nI ca) df db sd))), (aI k (a 1) 3 (nF dn)), (aI k (a 4) 27 (sg se tm gs)), (aI k (a 2) 72 ffrees), (aI k (a 3) 72 fprices), (aI k (a 36) 4 fwalks), (aI k (a 37) 4 (nF br)), (aI k (a 40) 4 fdoorsOf), (aI k (a 41) 4 (nF wb))] s.heap.size = A at hD hAlo ⊢
  have hA : ∀ q : Nat, s.heap.size ≤ q → A q := fun q h => by rw [← hAe]; exact Or.inr h
  have hS : va_S A s.heap s.heap [] := va_S.rf
  have hl := lv_entry ([.ref (a 0), .int p0, .int p1]) (n := 7) (Nat.le_of_ble_eq_true rfl)
  rw [lg_entry_eq]
  generalize (lg_sl ([.ref (a 0), .int p0, .int p1]) ++ List.replicate (7 - (lg_sl ([.ref (a 0), .int p0, .int p1])).length) Slot.unset).toArray = ls at hl ⊢
  have hl : lv_has ls 7 [(0, .ref (a 0)), (1, .int p0), (2, .int p1)] := hl
  refine lv_aload_n hx hb dX8_allRests_0 rfl (lv_at hl 0 rfl) ?_
  refine lv_iload_n hx hb dX8_allRests_1 rfl (lv_at hl 1 rfl) ?_
  refine ro_i (D := D) (va_runV (As := [.int p0]) (rest := []) ⟨hx, hb, hml, hown, hts⟩ ((n_isStreet l D k st lo a tx t0 we rd ru rw ca fp wd nu na ts df db sd dn p0 hdn) s.heap.size) (cwV 1 hts (gV tw_1189 tw_1191 tw_38 tw_87 tw_1192) rfl rfl rfl (by decide +kernel) ⟨Nat.le_of_ble_eq_true rfl, Nat.le_of_ble_eq_true rfl⟩) (pV hS hAlo hlo hP hK (va_Dlo hD hAlo) hZ [0, 1] (by decide) rfl (ci := 8) (q := (RX8, TX8, 44)) (q0 := 0) rfl rfl) rfl rfl hl.1 rfl (lv_room (Nat.le_of_ble_eq_true rfl)) dX8_allRests_2 ⟨Nat.le_of_ble_eq_true rfl, Nat.le_of_ble_eq_true rfl⟩) hS hA hP (fun r_1 H locs hw_1 hP hS => ?_)
  try dsimp only at hw_1
  rcases hw_1 with ⟨rfl, j_2, hj_2, rfl, hw_1⟩ | ⟨rfl, hw_1⟩
  · have hdj_2 := hdn j_2
    refine lv_if_ne (tgt := 12) hx hb dX8_allRests_5 (by decide) (fun _ => ?_) (fun h => absurd h (by decide))
    refine lv_aload_n hx hb dX8_allRests_12 rfl (lv_at hl 0 rfl) ?_
    refine lv_iload_n hx hb dX8_allRests_13 rfl (lv_at hl 1 rfl) ?_
    refine lv_iload_n hx hb dX8_allRests_14 rfl (lv_at hl 2 rfl) ?_
    refine ro_i (D := D) (va_runV (As := [.int (nI j_2), .int p1]) (rest := []) ⟨hx, hb, hml, hown, hts⟩ ((n_isSet l D k st lo a tx t0 we rd ru rw ca fp wd nu na ts df db sd dn j_2 p1 hdn (by first | assumption | omega)) H.size) (cwV 2 hts (gV tw_1390 tw_1392 tw_64 tw_87 tw_1393) rfl rfl rfl (by decide +kernel) ⟨Nat.le_of_ble_eq_true rfl, Nat.le_of_ble_eq_true rfl⟩) (pV hS hAlo hlo hP hK (va_Dlo hD hAlo) hZ [0, 1] (by decide) rfl (ci := 8) (q := (RX8, TX8, 44)) (q0 := 0) rfl rfl) rfl rfl hl.1 rfl (lv_room (Nat.le_of_ble_eq_true rfl)) dX8_allRests_15 ⟨Nat.le_of_ble_eq_true rfl, Nat.le_of_ble_eq_true rfl⟩) hS hA hP (fun r_3 H locs hw_3 hP hS => ?_)
    try dsimp only at hw_3
    rcases hw_3 with ⟨rfl, se_4, hse_4, rfl⟩ | ⟨rfl, hw_3⟩
    · refine lv_if_ne (tgt := 25) hx hb dX8_allRests_18 (by decide) (fun _ => ?_) (fun h => absurd h (by decide))
      have hpw_9 := pw31 (hdn j_2)
      refine lv_aload_n hx hb dX8_allRests_25 rfl (lv_at hl 0 rfl) ?_
      refine va_get (D := D) (ci := 8) (v := .int (nI ca)) (C := RX8) (T := TX8) (N := 44) hx hb hts inX8 hown hK hP 0 rfl rfl 34 (by decide) (hts _ tw_1007) (fun _ h9 => h9) rfl dX8_allRests_26 ?_
      refine lv_iconst (v := 2) hx hb dX8_allRests_29 (by decide) ?_
      refine lv_icmp_le (tgt := 37) hx hb dX8_allRests_30 (by decide) (fun c_5 => ?_) (fun c_5 => ?_)
      · have c_5 := (nI_leI (a := ca) (b := 2) (by omega) (by omega)).mp c_5
        refine lv_aload_n hx hb dX8_allRests_37 rfl (lv_at hl 0 rfl) ?_
        refine rw_v (D := D) (wr := [(aI k (a 1) 3 (nF dn)), (aI k (a 4) 27 (sg se tm gs)), (aI k (a 2) 72 ffrees), (aI k (a 3) 72 fprices), (aI k (a 36) 4 fwalks), (aI k (a 40) 4 fdoorsOf)]) (va_runV (As := []) (rest := []) ⟨hx, hb, hml, hown, hts⟩ ((m_holdBars l D k st lo a tx t0 we rd ru rw ca fp wd nu na ts df db sd br wb hbr hwb) H.size) (cwV 0 hts (gV tw_1430 tw_1432 tw_71 tw_87 tw_1433) rfl rfl rfl (by decide +kernel) ⟨Nat.le_of_ble_eq_true rfl, Nat.le_of_ble_eq_true rfl⟩) (pV hS hAlo hlo hP hK (va_Dlo hD hAlo) hZ [0, 6, 8] (by decide) rfl (ci := 8) (q := (RX8, TX8, 44)) (q0 := 0) rfl rfl) rfl rfl hl.1 rfl (lv_room (Nat.le_of_ble_eq_true rfl)) dX8_allRests_38 ⟨Nat.le_of_ble_eq_true rfl, Nat.le_of_ble_eq_true rfl⟩) hS hA hP hD [0, 6, 8] [1, 2, 3, 4, 5, 7] rfl rfl (by decide) (by decide) (fun u H locs hw_6 hP hD hS => ?_)
        obtain ⟨wb__6, rfl⟩ : ∃ z, z = u := ⟨_, rfl⟩
        have hQ9 := pd_mk [(aI k (a 1) 3 (nF dn)), (aI k (a 4) 27 (sg se tm gs)), (aI k (a 2) 72 ffrees), (aI k (a 3) 72 fprices), (aI k (a 36) 4 fwalks), (aI k (a 40) 4 fdoorsOf), ((a 0), .inr (8, (fX8 a (nI tx) fp (nI t0) wd (nI we) nu na (nI rd) ts (nI ru) (nI rw) (nI ca) df db sd))), (aI k (a 37) 4 (nF br)), (aI k (a 41) 4 (nF wb__6))] hP hD
        clear hP hD
        obtain ⟨hP, hD⟩ := hQ9
        try dsimp only at hw_6
        refine lv_aload_n hx hb dX8_allRests_41 rfl (lv_at hl 0 rfl) ?_
        refine va_get (D := D) (ci := 8) (v := .ref (a 1)) (C := RX8) (T := TX8) (N := 44) hx hb hts inX8 hown hK hP 6 rfl rfl 0 (by decide) (hts _ tw_973) (fun _ h9 => h9) rfl dX8_allRests_42 ?_
        refine lv_iload_n hx hb dX8_allRests_45 rfl (lv_at hl 1 rfl) ?_
        refine va_iald hx hb hK hP 0 1 rfl rfl (vp_in_nI (by omega) (by decide)) dX8_allRests_46 ?_
        refine lv_ti (y := (nI (dn j_2))) (by rw [nI_clamp (by omega)]; rfl) ?_
        refine lv_istore_n (lv' := [(3, .int (nI (dn j_2))), (0, .ref (a 0)), (1, .int (nI j_2)), (2, .int (nI se_4))]) hx hb dX8_allRests_47 rfl hl (by decide) rfl (fun ls hl => ?_)
        refine lv_iconst (v := 0) hx hb dX8_allRests_48 (by decide) ?_
        refine lv_istore (lv' := [(4, .int 0), (3, .int (nI (dn j_2))), (0, .ref (a 0)), (1, .int (nI j_2)), (2, .int (nI se_4))]) hx hb dX8_allRests_49 hl (by decide) rfl (fun ls hl => ?_)
        refine lv_iconst (v := 0) hx hb dX8_allRests_51 (by decide) ?_
        refine lv_istore (lv' := [(5, .int 0), (4, .int 0), (3, .int (nI (dn j_2))), (0, .ref (a 0)), (1, .int (nI j_2)), (2, .int (nI se_4))]) hx hb dX8_allRests_52 hl (by decide) rfl (fun ls hl => ?_)
        refine W_loop (σ := Nat × Nat × (Nat → Nat) × (Nat → Int32)) (fun (n_ : Nat) (x_ : Nat × Nat × (Nat → Nat) × (Nat → Int32)) (H : Heap) (locs : List Loc) (ls : Array Slot) => match x_ with | (aa_7, mn_7, b2_7, fd_7) => n_ = 26 - aa_7 ∧ (aa_7 ≤ crM 0 ca (dn j_2) + 1 ∧ mn_7 = crO (rsA (dn j_2) ca se_4 (fun c i => pD (sdM dn (sg se tm gs) ffrees fprices j_2) (fwalks c) df (db * 1000) i)) (crM 1 ca (dn j_2) + 1) aa_7 ∧ (∀ j, b2_7 j ≤ 24) ∧ dvOK fd_7) ∧ va_P D classes [(aI k (a 1) 3 (nF dn)), (aI k (a 4) 27 (sg se tm gs)), (aI k (a 2) 72 ffrees), (aI k (a 3) 72 fprices), (aI k (a 36) 4 fwalks), (aI k (a 40) 4 fd_7), ((a 0), .inr (8, (fX8 a (nI tx) fp (nI t0) wd (nI we) nu na (nI rd) ts (nI ru) (nI rw) (nI ca) df db sd))), (aI k (a 37) 4 (nF b2_7)), (aI k (a 41) 4 (nF wb__6))] H ∧ va_D A [(aI k (a 1) 3 (nF dn)), (aI k (a 4) 27 (sg se tm gs)), (aI k (a 2) 72 ffrees), (aI k (a 3) 72 fprices), (aI k (a 36) 4 fwalks), (aI k (a 40) 4 fd_7), ((a 0), .inr (8, (fX8 a (nI tx) fp (nI t0) wd (nI we) nu na (nI rd) ts (nI ru) (nI rw) (nI ca) df db sd))), (aI k (a 37) 4 (nF b2_7)), (aI k (a 41) 4 (nF wb__6))] ∧ va_S A s.heap H locs ∧ lv_has ls 7 [(5, .int (nI aa_7)), (4, .int (nI mn_7)), (3, .int (nI (dn j_2))), (0, .ref (a 0)), (1, .int (nI j_2)), (2, .int (nI se_4))]) (fun n_7 x_7 H locs ls hI ih_7 => ?_) _ (0, 0, br, fdoorsOf) ⟨rfl, ⟨by omega, rfl, hbr, hdv⟩, hP, hD, hS, (lv_sub hl [0, 1, 2, 3, 4, 5] rfl)⟩
        obtain ⟨aa_7, mn_7, b2_7, fd_7⟩ := x_7
        obtain ⟨hm_7, hv_7, hP, hD, hS, hl⟩ := hI
        subst hm_7
        have hbl_7 := hv_7.2.2.1
        have hdvl_7 := hv_7.2.2.2
        refine lv_iload hx hb dX8_allRests_54 (lv_at hl 0 rfl) ?_
        refine lv_aload_n hx hb dX8_allRests_56 rfl (lv_at hl 3 rfl) ?_
        refine va_get (D := D) (ci := 8) (v := .int (nI ca)) (C := RX8) (T := TX8) (N := 44) hx hb hts inX8 hown hK hP 6 rfl rfl 34 (by decide) (hts _ tw_1007) (fun _ h9 => h9) rfl dX8_allRests_57 ?_
        refine lv_if_le (tgt := 67) hx hb dX8_allRests_60 (by decide) (fun c_8 => ?_) (fun c_8 => ?_)
        · have c_8 := (nI_leI (a := ca) (b := 0) (by omega) (by omega)).mp c_8
          refine lv_iconst (v := 0) hx hb dX8_allRests_67 (by decide) ?_
          have hcM_9 : crM 0 ca (dn j_2) = 0 := if_neg (by omega)
          refine lv_icmp_gt (tgt := 139) hx hb dX8_allRests_68 (by decide) (fun c_10 => ?_) (fun c_10 => ?_)
          · have c_10 := (nI_ltI (a := 0) (b := aa_7) (by omega) (by omega)).mp c_10
            refine lv_aload_n hx hb dX8_allRests_139 rfl (lv_at hl 3 rfl) ?_
            refine rw_v (D := D) (wr := [(aI k (a 1) 3 (nF dn)), (aI k (a 4) 27 (sg se tm gs)), (aI k (a 2) 72 ffrees), (aI k (a 3) 72 fprices), (aI k (a 36) 4 fwalks), (aI k (a 40) 4 fd_7)]) (va_runV (As := []) (rest := []) ⟨hx, hb, hml, hown, hts⟩ ((m_putBars l D k st lo a tx t0 we rd ru rw ca fp wd nu na ts df db sd wb__6 b2_7 hbl_7 hw_6) H.size) (cwV 0 hts (gV tw_1434 tw_1436 tw_72 tw_87 tw_1437) rfl rfl rfl (by decide +kernel) ⟨Nat.le_of_ble_eq_true rfl, Nat.le_of_ble_eq_true rfl⟩) (pV hS hAlo hlo hP hK (va_Dlo hD hAlo) hZ [6, 8, 7] (by decide) rfl (ci := 8) (q := (RX8, TX8, 44)) (q0 := 0) rfl rfl) rfl rfl hl.1 rfl (lv_room (Nat.le_of_ble_eq_true rfl)) dX8_allRests_140 ⟨Nat.le_of_ble_eq_true rfl, Nat.le_of_ble_eq_true rfl⟩) hS hA hP hD [6, 8, 7] [0, 1, 2, 3, 4, 5] rfl rfl (by decide) (by decide) (fun u H locs hw_11 hP hD hS => ?_)
            obtain ⟨br__11, rfl⟩ : ∃ z, z = u := ⟨_, rfl⟩
            have hQ9 := pd_mk [(aI k (a 1) 3 (nF dn)), (aI k (a 4) 27 (sg se tm gs)), (aI k (a 2) 72 ffrees), (aI k (a 3) 72 fprices), (aI k (a 36) 4 fwalks), (aI k (a 40) 4 fd_7), ((a 0), .inr (8, (fX8 a (nI tx) fp (nI t0) wd (nI we) nu na (nI rd) ts (nI ru) (nI rw) (nI ca) df db sd))), (aI k (a 41) 4 (nF wb__6)), (aI k (a 37) 4 (nF br__11))] hP hD
            clear hP hD
            obtain ⟨hP, hD⟩ := hQ9
            try dsimp only at hw_11
            refine lv_iload hx hb dX8_allRests_143 (lv_at hl 1 rfl) ?_
            obtain ⟨hP9, hD9⟩ := pd_sub [((a 0), .inr (8, (fX8 a (nI tx) fp (nI t0) wd (nI we) nu na (nI rd) ts (nI ru) (nI rw) (nI ca) df db sd))), (aI k (a 1) 3 (nF dn)), (aI k (a 4) 27 (sg se tm gs)), (aI k (a 2) 72 ffrees), (aI k (a 3) 72 fprices), (aI k (a 36) 4 fwalks), (aI k (a 37) 4 (nF br__11)), (aI k (a 40) 4 fd_7), (aI k (a 41) 4 (nF wb__6))] [6, 0, 1, 2, 3, 4, 8, 5, 7] hP hD (by decide +kernel) rfl
            exact W.iret (v := (nI mn_7)) hx hb hr (fun t ht hW => ⟨⟨(nI mn_7), (br__11, fd_7, wb__6), rfl, ⟨tq_at (s := j_2) (by omega) (show 0 < dn j_2 by omega) (show arA (nI se_4) ca fwalks (sdM dn (sg se tm gs) ffrees fprices j_2) _ from ar_m (n := dn j_2) (K := (fun c i => pD (sdM dn (sg se tm gs) ffrees fprices j_2) (fwalks c) df (db * 1000) i)) rfl (hdn _) hse_4 (by omega) (fun c _ i _ => by rw [hdb]; exact pD_00) (congrArg nI (by rw [hv_7.2.1, show aa_7 = crM 0 ca (dn j_2) + 1 by omega]))), hw_11, hdvl_7, hw_6⟩, by rw [ht]; exact hP9, hD9⟩, hS.F ht⟩) hS.2.2 dX8_allRests_145
          · have c_10 : ¬ (0 < aa_7) := fun h => c_10 ((nI_ltI (a := 0) (b := aa_7) (by omega) (by omega)).mpr h)
            refine lv_iconst (v := 0) hx hb dX8_allRests_71 (by decide) ?_
            refine lv_istore (lv' := [(6, .int 0), (5, .int (nI aa_7)), (4, .int (nI mn_7)), (3, .int (nI (dn j_2))), (0, .ref (a 0)), (1, .int (nI j_2)), (2, .int (nI se_4))]) hx hb dX8_allRests_72 hl (by decide) rfl (fun ls hl => ?_)
            refine W_loop (σ := Nat × Nat × (Nat → Nat) × (Nat → Int32)) (fun (n_ : Nat) (x_ : Nat × Nat × (Nat → Nat) × (Nat → Int32)) (H : Heap) (locs : List Loc) (ls : Array Slot) => match x_ with | (bb_12, mm_12, b3_12, fd3_12) => n_ = 26 - bb_12 ∧ (bb_12 ≤ crM 1 ca (dn j_2) + 1 ∧ mm_12 = crO (rsA (dn j_2) ca se_4 (fun c i => pD (sdM dn (sg se tm gs) ffrees fprices j_2) (fwalks c) df (db * 1000) i)) (crM 1 ca (dn j_2) + 1) aa_7 + crI ((rsA (dn j_2) ca se_4 (fun c i => pD (sdM dn (sg se tm gs) ffrees fprices j_2) (fwalks c) df (db * 1000) i)) aa_7) bb_12 ∧ (∀ j, b3_12 j ≤ 24) ∧ dvOK fd3_12) ∧ va_P D classes [(aI k (a 1) 3 (nF dn)), (aI k (a 4) 27 (sg se tm gs)), (aI k (a 2) 72 ffrees), (aI k (a 3) 72 fprices), (aI k (a 36) 4 fwalks), (aI k (a 40) 4 fd3_12), ((a 0), .inr (8, (fX8 a (nI tx) fp (nI t0) wd (nI we) nu na (nI rd) ts (nI ru) (nI rw) (nI ca) df db sd))), (aI k (a 37) 4 (nF b3_12)), (aI k (a 41) 4 (nF wb__6))] H ∧ va_D A [(aI k (a 1) 3 (nF dn)), (aI k (a 4) 27 (sg se tm gs)), (aI k (a 2) 72 ffrees), (aI k (a 3) 72 fprices), (aI k (a 36) 4 fwalks), (aI k (a 40) 4 fd3_12), ((a 0), .inr (8, (fX8 a (nI tx) fp (nI t0) wd (nI we) nu na (nI rd) ts (nI ru) (nI rw) (nI ca) df db sd))), (aI k (a 37) 4 (nF b3_12)), (aI k (a 41) 4 (nF wb__6))] ∧ va_S A s.heap H locs ∧ lv_has ls 7 [(6, .int (nI bb_12)), (5, .int (nI aa_7)), (4, .int (nI mm_12)), (3, .int (nI (dn j_2))), (0, .ref (a 0)), (1, .int (nI j_2)), (2, .int (nI se_4))]) (fun n_12 x_12 H locs ls hI ih_12 => ?_) _ (0, mn_7, b2_7, fd_7) ⟨rfl, ⟨by omega, hv_7.2.1, hbl_7, hdvl_7⟩, hP, hD, hS, (lv_sub hl [0, 1, 2, 3, 4, 5, 6] rfl)⟩
            obtain ⟨bb_12, mm_12, b3_12, fd3_12⟩ := x_12
            obtain ⟨hm_12, hv_12, hP, hD, hS, hl⟩ := hI
            subst hm_12
            have hbl_12 := hv_12.2.2.1
            have hdvl_12 := hv_12.2.2.2
            refine lv_iload hx hb dX8_allRests_74 (lv_at hl 0 rfl) ?_
            refine lv_aload_n hx hb dX8_allRests_76 rfl (lv_at hl 4 rfl) ?_
            refine va_get (D := D) (ci := 8) (v := .int (nI ca)) (C := RX8) (T := TX8) (N := 44) hx hb hts inX8 hown hK hP 6 rfl rfl 34 (by decide) (hts _ tw_1007) (fun _ h9 => h9) rfl dX8_allRests_77 ?_
            refine lv_iconst (v := 1) hx hb dX8_allRests_80 (by decide) ?_
            refine lv_icmp_le (tgt := 88) hx hb dX8_allRests_81 (by decide) (fun _ => ?_) (fun h => absurd ((nI_leI (a := ca) (b := 1) (by omega) (by omega)).mpr (by omega)) h)
            refine lv_iconst (v := 0) hx hb dX8_allRests_88 (by decide) ?_
            have hcM_14 : crM 1 ca (dn j_2) = 0 := if_neg (by omega)
            refine lv_icmp_gt (tgt := 133) hx hb dX8_allRests_89 (by decide) (fun c_15 => ?_) (fun c_15 => ?_)
            · have c_15 := (nI_ltI (a := 0) (b := bb_12) (by omega) (by omega)).mp c_15
              refine lv_iinc (v := (nI (aa_7 + 1))) (lv' := [(5, .int (nI (aa_7 + 1))), (6, .int (nI bb_12)), (4, .int (nI mm_12)), (3, .int (nI (dn j_2))), (0, .ref (a 0)), (1, .int (nI j_2)), (2, .int (nI se_4))]) hx hb dX8_allRests_133 hl (k := 1) rfl (nI_add aa_7 1) (by decide) rfl (fun ls hl => ?_)
              refine lv_goto (tgt := 54) hx hb dX8_allRests_136 (by decide) ?_
              exact ih_7 _ (aa_7 + 1, mm_12, b3_12, fd3_12) _ _ _ (by omega) ⟨rfl, ⟨by omega, (by show _ = crO (rsA (dn j_2) ca se_4 (fun c i => pD (sdM dn (sg se tm gs) ffrees fprices j_2) (fwalks c) df (db * 1000) i)) (crM 1 ca (dn j_2) + 1) aa_7 + crI ((rsA (dn j_2) ca se_4 (fun c i => pD (sdM dn (sg se tm gs) ffrees fprices j_2) (fwalks c) df (db * 1000) i)) aa_7) (crM 1 ca (dn j_2) + 1); rw [hv_12.2.1, show bb_12 = crM 1 ca (dn j_2) + 1 by omega]), hv_12.2.2.1, hv_12.2.2.2⟩, hP, hD, hS, (lv_sub hl [0, 2, 3, 4, 5, 6] rfl)⟩
            · have c_15 : ¬ (0 < bb_12) := fun h => c_15 ((nI_ltI (a := 0) (b := bb_12) (by omega) (by omega)).mpr h)
              refine lv_aload_n hx hb dX8_allRests_92 rfl (lv_at hl 4 rfl) ?_
              refine va_get (D := D) (ci := 8) (v := .ref (a 37)) (C := RX8) (T := TX8) (N := 44) hx hb hts inX8 hown hK hP 6 rfl rfl 36 (by decide) (hts _ tw_1009) (fun _ h9 => h9) rfl dX8_allRests_93 ?_
              refine lv_iconst (v := 0) hx hb dX8_allRests_96 (by decide) ?_
              refine lv_iload hx hb dX8_allRests_97 (lv_at hl 1 rfl) ?_
              refine va_iast hx hb hK hP hD hS 7 1 rfl rfl (by unfold vp_in; decide) dX8_allRests_99 (fun H locs hP hD hS => ?_)
              have hQ9 := pd_mk [(aI k (a 1) 3 (nF dn)), (aI k (a 4) 27 (sg se tm gs)), (aI k (a 2) 72 ffrees), (aI k (a 3) 72 fprices), (aI k (a 36) 4 fwalks), (aI k (a 40) 4 fd3_12), ((a 0), .inr (8, (fX8 a (nI tx) fp (nI t0) wd (nI we) nu na (nI rd) ts (nI ru) (nI rw) (nI ca) df db sd))), (aI k (a 37) 4 (upd (nF b3_12) (Int32.toNatClampNeg 0) (nI aa_7))), (aI k (a 41) 4 (nF wb__6))] hP hD
              clear hP hD
              obtain ⟨hP, hD⟩ := hQ9
              rw [show upd (nF b3_12) (Int32.toNatClampNeg 0) (nI aa_7) = nF (fun j => if j = 0 then aa_7 else b3_12 j) from nF_upd _ _ _] at hP hD
              obtain ⟨d_17, hd_17⟩ : ∃ z : Nat → Nat, z = (fun j => if j = 0 then aa_7 else b3_12 j) := ⟨_, rfl⟩
              rw [← hd_17] at hP hD
              have hbb_17 : ∀ j, d_17 j ≤ 24 := by rw [hd_17]; exact up_le hbl_12 (by omega)
              refine lv_aload_n hx hb dX8_allRests_100 rfl (lv_at hl 4 rfl) ?_
              refine va_get (D := D) (ci := 8) (v := .ref (a 37)) (C := RX8) (T := TX8) (N := 44) hx hb hts inX8 hown hK hP 6 rfl rfl 36 (by decide) (hts _ tw_1009) (fun _ h9 => h9) rfl dX8_allRests_101 ?_
              refine lv_iconst (v := 1) hx hb dX8_allRests_104 (by decide) ?_
              refine lv_iload hx hb dX8_allRests_105 (lv_at hl 0 rfl) ?_
              refine va_iast hx hb hK hP hD hS 7 1 rfl rfl (by unfold vp_in; decide) dX8_allRests_107 (fun H locs hP hD hS => ?_)
              have hQ9 := pd_mk [(aI k (a 1) 3 (nF dn)), (aI k (a 4) 27 (sg se tm gs)), (aI k (a 2) 72 ffrees), (aI k (a 3) 72 fprices), (aI k (a 36) 4 fwalks), (aI k (a 40) 4 fd3_12), ((a 0), .inr (8, (fX8 a (nI tx) fp (nI t0) wd (nI we) nu na (nI rd) ts (nI ru) (nI rw) (nI ca) df db sd))), (aI k (a 37) 4 (upd (nF d_17) (Int32.toNatClampNeg 1) (nI bb_12))), (aI k (a 41) 4 (nF wb__6))] hP hD
              clear hP hD
              obtain ⟨hP, hD⟩ := hQ9
              rw [show upd (nF d_17) (Int32.toNatClampNeg 1) (nI bb_12) = nF (fun j => if j = 1 then bb_12 else d_17 j) from nF_upd _ _ _] at hP hD
              obtain ⟨d_19, hd_19⟩ : ∃ z : Nat → Nat, z = (fun j => if j = 1 then bb_12 else d_17 j) := ⟨_, rfl⟩
              rw [← hd_19] at hP hD
              have hbb_19 : ∀ j, d_19 j ≤ 24 := by rw [hd_19]; exact up_le hbb_17 (by omega)
              have hbn_20 : ∀ j, j < ca → d_19 j ≤ dn j_2 := by intro j hj; rcases (show j = 0 ∨ j = 1 by omega) with e | e; rw [e, hd_19, hd_17]; show aa_7 ≤ dn j_2; omega; rw [e, hd_19]; show bb_12 ≤ dn j_2; omega
              have hvc_20 : ∀ j, j < ca → d_19 j = vc aa_7 bb_12 j := by intro j hj; rcases (show j = 0 ∨ j = 1 by omega) with e | e; rw [e, hd_19, hd_17]; rfl; rw [e, hd_19]; rfl
              refine lv_iload hx hb dX8_allRests_108 (lv_at hl 2 rfl) ?_
              refine lv_aload_n hx hb dX8_allRests_110 rfl (lv_at hl 4 rfl) ?_
              refine lv_iload_n hx hb dX8_allRests_111 rfl (lv_at hl 5 rfl) ?_
              refine lv_iload_n hx hb dX8_allRests_112 rfl (lv_at hl 6 rfl) ?_
              refine rw_i (D := D) (wr := [(aI k (a 41) 4 (nF wb__6))]) (va_runV (As := [.int (nI j_2), .int (nI se_4)]) (rest := [.int (nI mm_12)]) ⟨hx, hb, hml, hown, hts⟩ ((n_isAtRest l D k st lo a tx t0 we rd ru rw ca fp wd nu na ts df db sd dn se tm gs ffrees fprices fwalks d_19 fd3_12 j_2 se_4 hdn (by first | assumption | omega) hbb_19 (by first | assumption | omega) hdvl_12 hse_4 hbn_20) H.size) (cwV 2 hts (gV tw_1410 tw_1412 tw_68 tw_87 tw_1413) rfl rfl rfl (by decide +kernel) ⟨Nat.le_of_ble_eq_true rfl, Nat.le_of_ble_eq_true rfl⟩) (pV hS hAlo hlo hP hK (va_Dlo hD hAlo) hZ [6, 0, 1, 2, 3, 4, 7, 5] (by decide) rfl (ci := 8) (q := (RX8, TX8, 44)) (q0 := 0) rfl rfl) rfl rfl hl.1 rfl (lv_room (Nat.le_of_ble_eq_true rfl)) dX8_allRests_113 ⟨Nat.le_of_ble_eq_true rfl, Nat.le_of_ble_eq_true rfl⟩) hS hA hP hD [6, 0, 1, 2, 3, 4, 7, 5] [8] rfl rfl (by decide) (by decide) (fun r_21 u H locs hw_21 hP hD hS => ?_)
              obtain ⟨br__21, fdoorsOf__21⟩ := u
              have hQ9 := pd_mk [(aI k (a 41) 4 (nF wb__6)), ((a 0), .inr (8, (fX8 a (nI tx) fp (nI t0) wd (nI we) nu na (nI rd) ts (nI ru) (nI rw) (nI ca) df db sd))), (aI k (a 1) 3 (nF dn)), (aI k (a 4) 27 (sg se tm gs)), (aI k (a 2) 72 ffrees), (aI k (a 3) 72 fprices), (aI k (a 36) 4 fwalks), (aI k (a 37) 4 (nF br__21)), (aI k (a 40) 4 fdoorsOf__21)] hP hD
              clear hP hD
              obtain ⟨hP, hD⟩ := hQ9
              try dsimp only at hw_21
              obtain ⟨hir_22, hie_22, hib_22, hid_22⟩ := hw_21
              rcases hir_22 with ⟨rfl, hir_22⟩ | ⟨rfl, hir_22⟩
              · refine lv_if_eq (tgt := 123) hx hb dX8_allRests_116 (by decide) (fun h => absurd h (by decide)) (fun _ => ?_)
                refine lv_iconst (v := 1) hx hb dX8_allRests_119 (by decide) ?_
                refine lv_goto (tgt := 124) hx hb dX8_allRests_120 (by decide) ?_
                refine lv_iadd hx hb dX8_allRests_124 ?_
                refine lv_ti (y := (nI (mm_12 + 1))) (nI_add mm_12 1) ?_
                refine lv_istore (lv' := [(4, .int (nI (mm_12 + 1))), (6, .int (nI bb_12)), (5, .int (nI aa_7)), (3, .int (nI (dn j_2))), (0, .ref (a 0)), (1, .int (nI j_2)), (2, .int (nI se_4))]) hx hb dX8_allRests_125 hl (by decide) rfl (fun ls hl => ?_)
                refine lv_iinc (v := (nI (bb_12 + 1))) (lv' := [(6, .int (nI (bb_12 + 1))), (4, .int (nI (mm_12 + 1))), (5, .int (nI aa_7)), (3, .int (nI (dn j_2))), (0, .ref (a 0)), (1, .int (nI j_2)), (2, .int (nI se_4))]) hx hb dX8_allRests_127 hl (k := 1) rfl (nI_add bb_12 1) (by decide) rfl (fun ls hl => ?_)
                refine lv_goto (tgt := 74) hx hb dX8_allRests_130 (by decide) ?_
                exact ih_12 _ (bb_12 + 1, mm_12 + 1, br__21, fdoorsOf__21) _ _ _ (by omega) ⟨rfl, ⟨by omega, (by show _ = crO (rsA (dn j_2) ca se_4 (fun c i => pD (sdM dn (sg se tm gs) ffrees fprices j_2) (fwalks c) df (db * 1000) i)) (crM 1 ca (dn j_2) + 1) aa_7 + (crI ((rsA (dn j_2) ca se_4 (fun c i => pD (sdM dn (sg se tm gs) ffrees fprices j_2) (fwalks c) df (db * 1000) i)) aa_7) bb_12 + rsB (rsP (dn j_2) ca se_4 (fun c i => pD (sdM dn (sg se tm gs) ffrees fprices j_2) (fwalks c) df (db * 1000) i) (vc aa_7 bb_12))); rw [rsB_1 (rsP_congr (fun _ _ _ _ => rfl) hvc_20 hir_22), hv_12.2.1, Nat.add_assoc]), hib_22, hid_22⟩, (hP.sub [2, 3, 4, 5, 6, 8, 1, 7, 0] rfl), (hD.sub [2, 3, 4, 5, 6, 8, 1, 7, 0] (by decide +kernel) rfl), hS, (lv_sub hl [0, 2, 1, 3, 4, 5, 6] rfl)⟩
              · refine lv_if_eq (tgt := 123) hx hb dX8_allRests_116 (by decide) (fun _ => ?_) (fun h => absurd (by decide) h)
                refine lv_iconst (v := 0) hx hb dX8_allRests_123 (by decide) ?_
                refine lv_iadd hx hb dX8_allRests_124 ?_
                refine lv_ti (y := (nI (mm_12 + 0))) (nI_add mm_12 0) ?_
                refine lv_istore (lv' := [(4, .int (nI (mm_12 + 0))), (6, .int (nI bb_12)), (5, .int (nI aa_7)), (3, .int (nI (dn j_2))), (0, .ref (a 0)), (1, .int (nI j_2)), (2, .int (nI se_4))]) hx hb dX8_allRests_125 hl (by decide) rfl (fun ls hl => ?_)
                refine lv_iinc (v := (nI (bb_12 + 1))) (lv' := [(6, .int (nI (bb_12 + 1))), (4, .int (nI (mm_12 + 0))), (5, .int (nI aa_7)), (3, .int (nI (dn j_2))), (0, .ref (a 0)), (1, .int (nI j_2)), (2, .int (nI se_4))]) hx hb dX8_allRests_127 hl (k := 1) rfl (nI_add bb_12 1) (by decide) rfl (fun ls hl => ?_)
                refine lv_goto (tgt := 74) hx hb dX8_allRests_130 (by decide) ?_
                exact ih_12 _ (bb_12 + 1, mm_12 + 0, br__21, fdoorsOf__21) _ _ _ (by omega) ⟨rfl, ⟨by omega, (by show _ = crO (rsA (dn j_2) ca se_4 (fun c i => pD (sdM dn (sg se tm gs) ffrees fprices j_2) (fwalks c) df (db * 1000) i)) (crM 1 ca (dn j_2) + 1) aa_7 + (crI ((rsA (dn j_2) ca se_4 (fun c i => pD (sdM dn (sg se tm gs) ffrees fprices j_2) (fwalks c) df (db * 1000) i)) aa_7) bb_12 + rsB (rsP (dn j_2) ca se_4 (fun c i => pD (sdM dn (sg se tm gs) ffrees fprices j_2) (fwalks c) df (db * 1000) i) (vc aa_7 bb_12))); rw [rsB_0 (fun q => hir_22 (rsP_congr (fun _ _ _ _ => rfl) (fun j hj => (hvc_20 j hj).symm) q)), hv_12.2.1, Nat.add_assoc]), hib_22, hid_22⟩, (hP.sub [2, 3, 4, 5, 6, 8, 1, 7, 0] rfl), (hD.sub [2, 3, 4, 5, 6, 8, 1, 7, 0] (by decide +kernel) rfl), hS, (lv_sub hl [0, 2, 1, 3, 4, 5, 6] rfl)⟩
        · have c_8 : ¬ (ca ≤ 0) := fun h => c_8 ((nI_leI (a := ca) (b := 0) (by omega) (by omega)).mpr h)
          refine lv_iload_n hx hb dX8_allRests_63 rfl (lv_at hl 2 rfl) ?_
          refine lv_goto (tgt := 68) hx hb dX8_allRests_64 (by decide) ?_
          have hcM_23 : crM 0 ca (dn j_2) = dn j_2 := if_pos (by omega)
          refine lv_icmp_gt (tgt := 139) hx hb dX8_allRests_68 (by decide) (fun c_24 => ?_) (fun c_24 => ?_)
          · have c_24 := (nI_ltI (a := (dn j_2)) (b := aa_7) (by omega) (by omega)).mp c_24
            refine lv_aload_n hx hb dX8_allRests_139 rfl (lv_at hl 3 rfl) ?_
            refine rw_v (D := D) (wr := [(aI k (a 1) 3 (nF dn)), (aI k (a 4) 27 (sg se tm gs)), (aI k (a 2) 72 ffrees), (aI k (a 3) 72 fprices), (aI k (a 36) 4 fwalks), (aI k (a 40) 4 fd_7)]) (va_runV (As := []) (rest := []) ⟨hx, hb, hml, hown, hts⟩ ((m_putBars l D k st lo a tx t0 we rd ru rw ca fp wd nu na ts df db sd wb__6 b2_7 hbl_7 hw_6) H.size) (cwV 0 hts (gV tw_1434 tw_1436 tw_72 tw_87 tw_1437) rfl rfl rfl (by decide +kernel) ⟨Nat.le_of_ble_eq_true rfl, Nat.le_of_ble_eq_true rfl⟩) (pV hS hAlo hlo hP hK (va_Dlo hD hAlo) hZ [6, 8, 7] (by decide) rfl (ci := 8) (q := (RX8, TX8, 44)) (q0 := 0) rfl rfl) rfl rfl hl.1 rfl (lv_room (Nat.le_of_ble_eq_true rfl)) dX8_allRests_140 ⟨Nat.le_of_ble_eq_true rfl, Nat.le_of_ble_eq_true rfl⟩) hS hA hP hD [6, 8, 7] [0, 1, 2, 3, 4, 5] rfl rfl (by decide) (by decide) (fun u H locs hw_25 hP hD hS => ?_)
            obtain ⟨br__25, rfl⟩ : ∃ z, z = u := ⟨_, rfl⟩
            have hQ9 := pd_mk [(aI k (a 1) 3 (nF dn)), (aI k (a 4) 27 (sg se tm gs)), (aI k (a 2) 72 ffrees), (aI k (a 3) 72 fprices), (aI k (a 36) 4 fwalks), (aI k (a 40) 4 fd_7), ((a 0), .inr (8, (fX8 a (nI tx) fp (nI t0) wd (nI we) nu na (nI rd) ts (nI ru) (nI rw) (nI ca) df db sd))), (aI k (a 41) 4 (nF wb__6)), (aI k (a 37) 4 (nF br__25))] hP hD
            clear hP hD
            obtain ⟨hP, hD⟩ := hQ9
            try dsimp only at hw_25
            refine lv_iload hx hb dX8_allRests_143 (lv_at hl 1 rfl) ?_
            obtain ⟨hP9, hD9⟩ := pd_sub [((a 0), .inr (8, (fX8 a (nI tx) fp (nI t0) wd (nI we) nu na (nI rd) ts (nI ru) (nI rw) (nI ca) df db sd))), (aI k (a 1) 3 (nF dn)), (aI k (a 4) 27 (sg se tm gs)), (aI k (a 2) 72 ffrees), (aI k (a 3) 72 fprices), (aI k (a 36) 4 fwalks), (aI k (a 37) 4 (nF br__25)), (aI k (a 40) 4 fd_7), (aI k (a 41) 4 (nF wb__6))] [6, 0, 1, 2, 3, 4, 8, 5, 7] hP hD (by decide +kernel) rfl
            exact W.iret (v := (nI mn_7)) hx hb hr (fun t ht hW => ⟨⟨(nI mn_7), (br__25, fd_7, wb__6), rfl, ⟨tq_at (s := j_2) (by omega) (show 0 < dn j_2 by omega) (show arA (nI se_4) ca fwalks (sdM dn (sg se tm gs) ffrees fprices j_2) _ from ar_m (n := dn j_2) (K := (fun c i => pD (sdM dn (sg se tm gs) ffrees fprices j_2) (fwalks c) df (db * 1000) i)) rfl (hdn _) hse_4 (by omega) (fun c _ i _ => by rw [hdb]; exact pD_00) (congrArg nI (by rw [hv_7.2.1, show aa_7 = crM 0 ca (dn j_2) + 1 by omega]))), hw_25, hdvl_7, hw_6⟩, by rw [ht]; exact hP9, hD9⟩, hS.F ht⟩) hS.2.2 dX8_allRests_145
          · have c_24 : ¬ ((dn j_2) < aa_7) := fun h => c_24 ((nI_ltI (a := (dn j_2)) (b := aa_7) (by omega) (by omega)).mpr h)
            refine lv_iconst (v := 0) hx hb dX8_allRests_71 (by decide) ?_
            refine lv_istore (lv' := [(6, .int 0), (5, .int (nI aa_7)), (4, .int (nI mn_7)), (3, .int (nI (dn j_2))), (0, .ref (a 0)), (1, .int (nI j_2)), (2, .int (nI se_4))]) hx hb dX8_allRests_72 hl (by decide) rfl (fun ls hl => ?_)
            refine W_loop (σ := Nat × Nat × (Nat → Nat) × (Nat → Int32)) (fun (n_ : Nat) (x_ : Nat × Nat × (Nat → Nat) × (Nat → Int32)) (H : Heap) (locs : List Loc) (ls : Array Slot) => match x_ with | (bb_26, mm_26, b3_26, fd3_26) => n_ = 26 - bb_26 ∧ (bb_26 ≤ crM 1 ca (dn j_2) + 1 ∧ mm_26 = crO (rsA (dn j_2) ca se_4 (fun c i => pD (sdM dn (sg se tm gs) ffrees fprices j_2) (fwalks c) df (db * 1000) i)) (crM 1 ca (dn j_2) + 1) aa_7 + crI ((rsA (dn j_2) ca se_4 (fun c i => pD (sdM dn (sg se tm gs) ffrees fprices j_2) (fwalks c) df (db * 1000) i)) aa_7) bb_26 ∧ (∀ j, b3_26 j ≤ 24) ∧ dvOK fd3_26) ∧ va_P D classes [(aI k (a 1) 3 (nF dn)), (aI k (a 4) 27 (sg se tm gs)), (aI k (a 2) 72 ffrees), (aI k (a 3) 72 fprices), (aI k (a 36) 4 fwalks), (aI k (a 40) 4 fd3_26), ((a 0), .inr (8, (fX8 a (nI tx) fp (nI t0) wd (nI we) nu na (nI rd) ts (nI ru) (nI rw) (nI ca) df db sd))), (aI k (a 37) 4 (nF b3_26)), (aI k (a 41) 4 (nF wb__6))] H ∧ va_D A [(aI k (a 1) 3 (nF dn)), (aI k (a 4) 27 (sg se tm gs)), (aI k (a 2) 72 ffrees), (aI k (a 3) 72 fprices), (aI k (a 36) 4 fwalks), (aI k (a 40) 4 fd3_26), ((a 0), .inr (8, (fX8 a (nI tx) fp (nI t0) wd (nI we) nu na (nI rd) ts (nI ru) (nI rw) (nI ca) df db sd))), (aI k (a 37) 4 (nF b3_26)), (aI k (a 41) 4 (nF wb__6))] ∧ va_S A s.heap H locs ∧ lv_has ls 7 [(6, .int (nI bb_26)), (5, .int (nI aa_7)), (4, .int (nI mm_26)), (3, .int (nI (dn j_2))), (0, .ref (a 0)), (1, .int (nI j_2)), (2, .int (nI se_4))]) (fun n_26 x_26 H locs ls hI ih_26 => ?_) _ (0, mn_7, b2_7, fd_7) ⟨rfl, ⟨by omega, hv_7.2.1, hbl_7, hdvl_7⟩, hP, hD, hS, (lv_sub hl [0, 1, 2, 3, 4, 5, 6] rfl)⟩
            obtain ⟨bb_26, mm_26, b3_26, fd3_26⟩ := x_26
            obtain ⟨hm_26, hv_26, hP, hD, hS, hl⟩ := hI
            subst hm_26
            have hbl_26 := hv_26.2.2.1
            have hdvl_26 := hv_26.2.2.2
            refine lv_iload hx hb dX8_allRests_74 (lv_at hl 0 rfl) ?_
            refine lv_aload_n hx hb dX8_allRests_76 rfl (lv_at hl 4 rfl) ?_
            refine va_get (D := D) (ci := 8) (v := .int (nI ca)) (C := RX8) (T := TX8) (N := 44) hx hb hts inX8 hown hK hP 6 rfl rfl 34 (by decide) (hts _ tw_1007) (fun _ h9 => h9) rfl dX8_allRests_77 ?_
            refine lv_iconst (v := 1) hx hb dX8_allRests_80 (by decide) ?_
            refine lv_icmp_le (tgt := 88) hx hb dX8_allRests_81 (by decide) (fun c_27 => ?_) (fun c_27 => ?_)
            · have c_27 := (nI_leI (a := ca) (b := 1) (by omega) (by omega)).mp c_27
              refine lv_iconst (v := 0) hx hb dX8_allRests_88 (by decide) ?_
              have hcM_28 : crM 1 ca (dn j_2) = 0 := if_neg (by omega)
              refine lv_icmp_gt (tgt := 133) hx hb dX8_allRests_89 (by decide) (fun c_29 => ?_) (fun c_29 => ?_)
              · have c_29 := (nI_ltI (a := 0) (b := bb_26) (by omega) (by omega)).mp c_29
                refine lv_iinc (v := (nI (aa_7 + 1))) (lv' := [(5, .int (nI (aa_7 + 1))), (6, .int (nI bb_26)), (4, .int (nI mm_26)), (3, .int (nI (dn j_2))), (0, .ref (a 0)), (1, .int (nI j_2)), (2, .int (nI se_4))]) hx hb dX8_allRests_133 hl (k := 1) rfl (nI_add aa_7 1) (by decide) rfl (fun ls hl => ?_)
                refine lv_goto (tgt := 54) hx hb dX8_allRests_136 (by decide) ?_
                exact ih_7 _ (aa_7 + 1, mm_26, b3_26, fd3_26) _ _ _ (by omega) ⟨rfl, ⟨by omega, (by show _ = crO (rsA (dn j_2) ca se_4 (fun c i => pD (sdM dn (sg se tm gs) ffrees fprices j_2) (fwalks c) df (db * 1000) i)) (crM 1 ca (dn j_2) + 1) aa_7 + crI ((rsA (dn j_2) ca se_4 (fun c i => pD (sdM dn (sg se tm gs) ffrees fprices j_2) (fwalks c) df (db * 1000) i)) aa_7) (crM 1 ca (dn j_2) + 1); rw [hv_26.2.1, show bb_26 = crM 1 ca (dn j_2) + 1 by omega]), hv_26.2.2.1, hv_26.2.2.2⟩, hP, hD, hS, (lv_sub hl [0, 2, 3, 4, 5, 6] rfl)⟩
              · have c_29 : ¬ (0 < bb_26) := fun h => c_29 ((nI_ltI (a := 0) (b := bb_26) (by omega) (by omega)).mpr h)
                refine lv_aload_n hx hb dX8_allRests_92 rfl (lv_at hl 4 rfl) ?_
                refine va_get (D := D) (ci := 8) (v := .ref (a 37)) (C := RX8) (T := TX8) (N := 44) hx hb hts inX8 hown hK hP 6 rfl rfl 36 (by decide) (hts _ tw_1009) (fun _ h9 => h9) rfl dX8_allRests_93 ?_
                refine lv_iconst (v := 0) hx hb dX8_allRests_96 (by decide) ?_
                refine lv_iload hx hb dX8_allRests_97 (lv_at hl 1 rfl) ?_
                refine va_iast hx hb hK hP hD hS 7 1 rfl rfl (by unfold vp_in; decide) dX8_allRests_99 (fun H locs hP hD hS => ?_)
                have hQ9 := pd_mk [(aI k (a 1) 3 (nF dn)), (aI k (a 4) 27 (sg se tm gs)), (aI k (a 2) 72 ffrees), (aI k (a 3) 72 fprices), (aI k (a 36) 4 fwalks), (aI k (a 40) 4 fd3_26), ((a 0), .inr (8, (fX8 a (nI tx) fp (nI t0) wd (nI we) nu na (nI rd) ts (nI ru) (nI rw) (nI ca) df db sd))), (aI k (a 37) 4 (upd (nF b3_26) (Int32.toNatClampNeg 0) (nI aa_7))), (aI k (a 41) 4 (nF wb__6))] hP hD
                clear hP hD
                obtain ⟨hP, hD⟩ := hQ9
                rw [show upd (nF b3_26) (Int32.toNatClampNeg 0) (nI aa_7) = nF (fun j => if j = 0 then aa_7 else b3_26 j) from nF_upd _ _ _] at hP hD
                obtain ⟨d_31, hd_31⟩ : ∃ z : Nat → Nat, z = (fun j => if j = 0 then aa_7 else b3_26 j) := ⟨_, rfl⟩
                rw [← hd_31] at hP hD
                have hbb_31 : ∀ j, d_31 j ≤ 24 := by rw [hd_31]; exact up_le hbl_26 (by omega)
                refine lv_aload_n hx hb dX8_allRests_100 rfl (lv_at hl 4 rfl) ?_
                refine va_get (D := D) (ci := 8) (v := .ref (a 37)) (C := RX8) (T := TX8) (N := 44) hx hb hts inX8 hown hK hP 6 rfl rfl 36 (by decide) (hts _ tw_1009) (fun _ h9 => h9) rfl dX8_allRests_101 ?_
                refine lv_iconst (v := 1) hx hb dX8_allRests_104 (by decide) ?_
                refine lv_iload hx hb dX8_allRests_105 (lv_at hl 0 rfl) ?_
                refine va_iast hx hb hK hP hD hS 7 1 rfl rfl (by unfold vp_in; decide) dX8_allRests_107 (fun H locs hP hD hS => ?_)
                have hQ9 := pd_mk [(aI k (a 1) 3 (nF dn)), (aI k (a 4) 27 (sg se tm gs)), (aI k (a 2) 72 ffrees), (aI k (a 3) 72 fprices), (aI k (a 36) 4 fwalks), (aI k (a 40) 4 fd3_26), ((a 0), .inr (8, (fX8 a (nI tx) fp (nI t0) wd (nI we) nu na (nI rd) ts (nI ru) (nI rw) (nI ca) df db sd))), (aI k (a 37) 4 (upd (nF d_31) (Int32.toNatClampNeg 1) (nI bb_26))), (aI k (a 41) 4 (nF wb__6))] hP hD
                clear hP hD
                obtain ⟨hP, hD⟩ := hQ9
                rw [show upd (nF d_31) (Int32.toNatClampNeg 1) (nI bb_26) = nF (fun j => if j = 1 then bb_26 else d_31 j) from nF_upd _ _ _] at hP hD
                obtain ⟨d_33, hd_33⟩ : ∃ z : Nat → Nat, z = (fun j => if j = 1 then bb_26 else d_31 j) := ⟨_, rfl⟩
                rw [← hd_33] at hP hD
                have hbb_33 : ∀ j, d_33 j ≤ 24 := by rw [hd_33]; exact up_le hbb_31 (by omega)
                have hbn_34 : ∀ j, j < ca → d_33 j ≤ dn j_2 := by intro j hj; rcases (show j = 0 ∨ j = 1 by omega) with e | e; rw [e, hd_33, hd_31]; show aa_7 ≤ dn j_2; omega; rw [e, hd_33]; show bb_26 ≤ dn j_2; omega
                have hvc_34 : ∀ j, j < ca → d_33 j = vc aa_7 bb_26 j := by intro j hj; rcases (show j = 0 ∨ j = 1 by omega) with e | e; rw [e, hd_33, hd_31]; rfl; rw [e, hd_33]; rfl
                refine lv_iload hx hb dX8_allRests_108 (lv_at hl 2 rfl) ?_
                refine lv_aload_n hx hb dX8_allRests_110 rfl (lv_at hl 4 rfl) ?_
                refine lv_iload_n hx hb dX8_allRests_111 rfl (lv_at hl 5 rfl) ?_
                refine lv_iload_n hx hb dX8_allRests_112 rfl (lv_at hl 6 rfl) ?_
                refine rw_i (D := D) (wr := [(aI k (a 41) 4 (nF wb__6))]) (va_runV (As := [.int (nI j_2), .int (nI se_4)]) (rest := [.int (nI mm_26)]) ⟨hx, hb, hml, hown, hts⟩ ((n_isAtRest l D k st lo a tx t0 we rd ru rw ca fp wd nu na ts df db sd dn se tm gs ffrees fprices fwalks d_33 fd3_26 j_2 se_4 hdn (by first | assumption | omega) hbb_33 (by first | assumption | omega) hdvl_26 hse_4 hbn_34) H.size) (cwV 2 hts (gV tw_1410 tw_1412 tw_68 tw_87 tw_1413) rfl rfl rfl (by decide +kernel) ⟨Nat.le_of_ble_eq_true rfl, Nat.le_of_ble_eq_true rfl⟩) (pV hS hAlo hlo hP hK (va_Dlo hD hAlo) hZ [6, 0, 1, 2, 3, 4, 7, 5] (by decide) rfl (ci := 8) (q := (RX8, TX8, 44)) (q0 := 0) rfl rfl) rfl rfl hl.1 rfl (lv_room (Nat.le_of_ble_eq_true rfl)) dX8_allRests_113 ⟨Nat.le_of_ble_eq_true rfl, Nat.le_of_ble_eq_true rfl⟩) hS hA hP hD [6, 0, 1, 2, 3, 4, 7, 5] [8] rfl rfl (by decide) (by decide) (fun r_35 u H locs hw_35 hP hD hS => ?_)
                obtain ⟨br__35, fdoorsOf__35⟩ := u
                have hQ9 := pd_mk [(aI k (a 41) 4 (nF wb__6)), ((a 0), .inr (8, (fX8 a (nI tx) fp (nI t0) wd (nI we) nu na (nI rd) ts (nI ru) (nI rw) (nI ca) df db sd))), (aI k (a 1) 3 (nF dn)), (aI k (a 4) 27 (sg se tm gs)), (aI k (a 2) 72 ffrees), (aI k (a 3) 72 fprices), (aI k (a 36) 4 fwalks), (aI k (a 37) 4 (nF br__35)), (aI k (a 40) 4 fdoorsOf__35)] hP hD
                clear hP hD
                obtain ⟨hP, hD⟩ := hQ9
                try dsimp only at hw_35
                obtain ⟨hir_36, hie_36, hib_36, hid_36⟩ := hw_35
                rcases hir_36 with ⟨rfl, hir_36⟩ | ⟨rfl, hir_36⟩
                · refine lv_if_eq (tgt := 123) hx hb dX8_allRests_116 (by decide) (fun h => absurd h (by decide)) (fun _ => ?_)
                  refine lv_iconst (v := 1) hx hb dX8_allRests_119 (by decide) ?_
                  refine lv_goto (tgt := 124) hx hb dX8_allRests_120 (by decide) ?_
                  refine lv_iadd hx hb dX8_allRests_124 ?_
                  refine lv_ti (y := (nI (mm_26 + 1))) (nI_add mm_26 1) ?_
                  refine lv_istore (lv' := [(4, .int (nI (mm_26 + 1))), (6, .int (nI bb_26)), (5, .int (nI aa_7)), (3, .int (nI (dn j_2))), (0, .ref (a 0)), (1, .int (nI j_2)), (2, .int (nI se_4))]) hx hb dX8_allRests_125 hl (by decide) rfl (fun ls hl => ?_)
                  refine lv_iinc (v := (nI (bb_26 + 1))) (lv' := [(6, .int (nI (bb_26 + 1))), (4, .int (nI (mm_26 + 1))), (5, .int (nI aa_7)), (3, .int (nI (dn j_2))), (0, .ref (a 0)), (1, .int (nI j_2)), (2, .int (nI se_4))]) hx hb dX8_allRests_127 hl (k := 1) rfl (nI_add bb_26 1) (by decide) rfl (fun ls hl => ?_)
                  refine lv_goto (tgt := 74) hx hb dX8_allRests_130 (by decide) ?_
                  exact ih_26 _ (bb_26 + 1, mm_26 + 1, br__35, fdoorsOf__35) _ _ _ (by omega) ⟨rfl, ⟨by omega, (by show _ = crO (rsA (dn j_2) ca se_4 (fun c i => pD (sdM dn (sg se tm gs) ffrees fprices j_2) (fwalks c) df (db * 1000) i)) (crM 1 ca (dn j_2) + 1) aa_7 + (crI ((rsA (dn j_2) ca se_4 (fun c i => pD (sdM dn (sg se tm gs) ffrees fprices j_2) (fwalks c) df (db * 1000) i)) aa_7) bb_26 + rsB (rsP (dn j_2) ca se_4 (fun c i => pD (sdM dn (sg se tm gs) ffrees fprices j_2) (fwalks c) df (db * 1000) i) (vc aa_7 bb_26))); rw [rsB_1 (rsP_congr (fun _ _ _ _ => rfl) hvc_34 hir_36), hv_26.2.1, Nat.add_assoc]), hib_36, hid_36⟩, (hP.sub [2, 3, 4, 5, 6, 8, 1, 7, 0] rfl), (hD.sub [2, 3, 4, 5, 6, 8, 1, 7, 0] (by decide +kernel) rfl), hS, (lv_sub hl [0, 2, 1, 3, 4, 5, 6] rfl)⟩
                · refine lv_if_eq (tgt := 123) hx hb dX8_allRests_116 (by decide) (fun _ => ?_) (fun h => absurd (by decide) h)
                  refine lv_iconst (v := 0) hx hb dX8_allRests_123 (by decide) ?_
                  refine lv_iadd hx hb dX8_allRests_124 ?_
                  refine lv_ti (y := (nI (mm_26 + 0))) (nI_add mm_26 0) ?_
                  refine lv_istore (lv' := [(4, .int (nI (mm_26 + 0))), (6, .int (nI bb_26)), (5, .int (nI aa_7)), (3, .int (nI (dn j_2))), (0, .ref (a 0)), (1, .int (nI j_2)), (2, .int (nI se_4))]) hx hb dX8_allRests_125 hl (by decide) rfl (fun ls hl => ?_)
                  refine lv_iinc (v := (nI (bb_26 + 1))) (lv' := [(6, .int (nI (bb_26 + 1))), (4, .int (nI (mm_26 + 0))), (5, .int (nI aa_7)), (3, .int (nI (dn j_2))), (0, .ref (a 0)), (1, .int (nI j_2)), (2, .int (nI se_4))]) hx hb dX8_allRests_127 hl (k := 1) rfl (nI_add bb_26 1) (by decide) rfl (fun ls hl => ?_)
                  refine lv_goto (tgt := 74) hx hb dX8_allRests_130 (by decide) ?_
                  exact ih_26 _ (bb_26 + 1, mm_26 + 0, br__35, fdoorsOf__35) _ _ _ (by omega) ⟨rfl, ⟨by omega, (by show _ = crO (rsA (dn j_2) ca se_4 (fun c i => pD (sdM dn (sg se tm gs) ffrees fprices j_2) (fwalks c) df (db * 1000) i)) (crM 1 ca (dn j_2) + 1) aa_7 + (crI ((rsA (dn j_2) ca se_4 (fun c i => pD (sdM dn (sg se tm gs) ffrees fprices j_2) (fwalks c) df (db * 1000) i)) aa_7) bb_26 + rsB (rsP (dn j_2) ca se_4 (fun c i => pD (sdM dn (sg se tm gs) ffrees fprices j_2) (fwalks c) df (db * 1000) i) (vc aa_7 bb_26))); rw [rsB_0 (fun q => hir_36 (rsP_congr (fun _ _ _ _ => rfl) (fun j hj => (hvc_34 j hj).symm) q)), hv_26.2.1, Nat.add_assoc]), hib_36, hid_36⟩, (hP.sub [2, 3, 4, 5, 6, 8, 1, 7, 0] rfl), (hD.sub [2, 3, 4, 5, 6, 8, 1, 7, 0] (by decide +kernel) rfl), hS, (lv_sub hl [0, 2, 1, 3, 4, 5, 6] rfl)⟩
            · have c_27 : ¬ (ca ≤ 1) := fun h => c_27 ((nI_leI (a := ca) (b := 1) (by omega) (by omega)).mpr h)
              refine lv_iload_n hx hb dX8_allRests_84 rfl (lv_at hl 3 rfl) ?_
              refine lv_goto (tgt := 89) hx hb dX8_allRests_85 (by decide) ?_
              have hcM_37 : crM 1 ca (dn j_2) = dn j_2 := if_pos (by omega)
              refine lv_icmp_gt (tgt := 133) hx hb dX8_allRests_89 (by decide) (fun c_38 => ?_) (fun c_38 => ?_)
              · have c_38 := (nI_ltI (a := (dn j_2)) (b := bb_26) (by omega) (by omega)).mp c_38
                refine lv_iinc (v := (nI (aa_7 + 1))) (lv' := [(5, .int (nI (aa_7 + 1))), (6, .int (nI bb_26)), (4, .int (nI mm_26)), (3, .int (nI (dn j_2))), (0, .ref (a 0)), (1, .int (nI j_2)), (2, .int (nI se_4))]) hx hb dX8_allRests_133 hl (k := 1) rfl (nI_add aa_7 1) (by decide) rfl (fun ls hl => ?_)
                refine lv_goto (tgt := 54) hx hb dX8_allRests_136 (by decide) ?_
                exact ih_7 _ (aa_7 + 1, mm_26, b3_26, fd3_26) _ _ _ (by omega) ⟨rfl, ⟨by omega, (by show _ = crO (rsA (dn j_2) ca se_4 (fun c i => pD (sdM dn (sg se tm gs) ffrees fprices j_2) (fwalks c) df (db * 1000) i)) (crM 1 ca (dn j_2) + 1) aa_7 + crI ((rsA (dn j_2) ca se_4 (fun c i => pD (sdM dn (sg se tm gs) ffrees fprices j_2) (fwalks c) df (db * 1000) i)) aa_7) (crM 1 ca (dn j_2) + 1); rw [hv_26.2.1, show bb_26 = crM 1 ca (dn j_2) + 1 by omega]), hv_26.2.2.1, hv_26.2.2.2⟩, hP, hD, hS, (lv_sub hl [0, 2, 3, 4, 5, 6] rfl)⟩
              · have c_38 : ¬ ((dn j_2) < bb_26) := fun h => c_38 ((nI_ltI (a := (dn j_2)) (b := bb_26) (by omega) (by omega)).mpr h)
                refine lv_aload_n hx hb dX8_allRests_92 rfl (lv_at hl 4 rfl) ?_
                refine va_get (D := D) (ci := 8) (v := .ref (a 37)) (C := RX8) (T := TX8) (N := 44) hx hb hts inX8 hown hK hP 6 rfl rfl 36 (by decide) (hts _ tw_1009) (fun _ h9 => h9) rfl dX8_allRests_93 ?_
                refine lv_iconst (v := 0) hx hb dX8_allRests_96 (by decide) ?_
                refine lv_iload hx hb dX8_allRests_97 (lv_at hl 1 rfl) ?_
                refine va_iast hx hb hK hP hD hS 7 1 rfl rfl (by unfold vp_in; decide) dX8_allRests_99 (fun H locs hP hD hS => ?_)
                have hQ9 := pd_mk [(aI k (a 1) 3 (nF dn)), (aI k (a 4) 27 (sg se tm gs)), (aI k (a 2) 72 ffrees), (aI k (a 3) 72 fprices), (aI k (a 36) 4 fwalks), (aI k (a 40) 4 fd3_26), ((a 0), .inr (8, (fX8 a (nI tx) fp (nI t0) wd (nI we) nu na (nI rd) ts (nI ru) (nI rw) (nI ca) df db sd))), (aI k (a 37) 4 (upd (nF b3_26) (Int32.toNatClampNeg 0) (nI aa_7))), (aI k (a 41) 4 (nF wb__6))] hP hD
                clear hP hD
                obtain ⟨hP, hD⟩ := hQ9
                rw [show upd (nF b3_26) (Int32.toNatClampNeg 0) (nI aa_7) = nF (fun j => if j = 0 then aa_7 else b3_26 j) from nF_upd _ _ _] at hP hD
                obtain ⟨d_40, hd_40⟩ : ∃ z : Nat → Nat, z = (fun j => if j = 0 then aa_7 else b3_26 j) := ⟨_, rfl⟩
                rw [← hd_40] at hP hD
                have hbb_40 : ∀ j, d_40 j ≤ 24 := by rw [hd_40]; exact up_le hbl_26 (by omega)
                refine lv_aload_n hx hb dX8_allRests_100 rfl (lv_at hl 4 rfl) ?_
                refine va_get (D := D) (ci := 8) (v := .ref (a 37)) (C := RX8) (T := TX8) (N := 44) hx hb hts inX8 hown hK hP 6 rfl rfl 36 (by decide) (hts _ tw_1009) (fun _ h9 => h9) rfl dX8_allRests_101 ?_
                refine lv_iconst (v := 1) hx hb dX8_allRests_104 (by decide) ?_
                refine lv_iload hx hb dX8_allRests_105 (lv_at hl 0 rfl) ?_
                refine va_iast hx hb hK hP hD hS 7 1 rfl rfl (by unfold vp_in; decide) dX8_allRests_107 (fun H locs hP hD hS => ?_)
                have hQ9 := pd_mk [(aI k (a 1) 3 (nF dn)), (aI k (a 4) 27 (sg se tm gs)), (aI k (a 2) 72 ffrees), (aI k (a 3) 72 fprices), (aI k (a 36) 4 fwalks), (aI k (a 40) 4 fd3_26), ((a 0), .inr (8, (fX8 a (nI tx) fp (nI t0) wd (nI we) nu na (nI rd) ts (nI ru) (nI rw) (nI ca) df db sd))), (aI k (a 37) 4 (upd (nF d_40) (Int32.toNatClampNeg 1) (nI bb_26))), (aI k (a 41) 4 (nF wb__6))] hP hD
                clear hP hD
                obtain ⟨hP, hD⟩ := hQ9
                rw [show upd (nF d_40) (Int32.toNatClampNeg 1) (nI bb_26) = nF (fun j => if j = 1 then bb_26 else d_40 j) from nF_upd _ _ _] at hP hD
                obtain ⟨d_42, hd_42⟩ : ∃ z : Nat → Nat, z = (fun j => if j = 1 then bb_26 else d_40 j) := ⟨_, rfl⟩
                rw [← hd_42] at hP hD
                have hbb_42 : ∀ j, d_42 j ≤ 24 := by rw [hd_42]; exact up_le hbb_40 (by omega)
                have hbn_43 : ∀ j, j < ca → d_42 j ≤ dn j_2 := by intro j hj; rcases (show j = 0 ∨ j = 1 by omega) with e | e; rw [e, hd_42, hd_40]; show aa_7 ≤ dn j_2; omega; rw [e, hd_42]; show bb_26 ≤ dn j_2; omega
                have hvc_43 : ∀ j, j < ca → d_42 j = vc aa_7 bb_26 j := by intro j hj; rcases (show j = 0 ∨ j = 1 by omega) with e | e; rw [e, hd_42, hd_40]; rfl; rw [e, hd_42]; rfl
                refine lv_iload hx hb dX8_allRests_108 (lv_at hl 2 rfl) ?_
                refine lv_aload_n hx hb dX8_allRests_110 rfl (lv_at hl 4 rfl) ?_
                refine lv_iload_n hx hb dX8_allRests_111 rfl (lv_at hl 5 rfl) ?_
                refine lv_iload_n hx hb dX8_allRests_112 rfl (lv_at hl 6 rfl) ?_
                refine rw_i (D := D) (wr := [(aI k (a 41) 4 (nF wb__6))]) (va_runV (As := [.int (nI j_2), .int (nI se_4)]) (rest := [.int (nI mm_26)]) ⟨hx, hb, hml, hown, hts⟩ ((n_isAtRest l D k st lo a tx t0 we rd ru rw ca fp wd nu na ts df db sd dn se tm gs ffrees fprices fwalks d_42 fd3_26 j_2 se_4 hdn (by first | assumption | omega) hbb_42 (by first | assumption | omega) hdvl_26 hse_4 hbn_43) H.size) (cwV 2 hts (gV tw_1410 tw_1412 tw_68 tw_87 tw_1413) rfl rfl rfl (by decide +kernel) ⟨Nat.le_of_ble_eq_true rfl, Nat.le_of_ble_eq_true rfl⟩) (pV hS hAlo hlo hP hK (va_Dlo hD hAlo) hZ [6, 0, 1, 2, 3, 4, 7, 5] (by decide) rfl (ci := 8) (q := (RX8, TX8, 44)) (q0 := 0) rfl rfl) rfl rfl hl.1 rfl (lv_room (Nat.le_of_ble_eq_true rfl)) dX8_allRests_113 ⟨Nat.le_of_ble_eq_true rfl, Nat.le_of_ble_eq_true rfl⟩) hS hA hP hD [6, 0, 1, 2, 3, 4, 7, 5] [8] rfl rfl (by decide) (by decide) (fun r_44 u H locs hw_44 hP hD hS => ?_)
                obtain ⟨br__44, fdoorsOf__44⟩ := u
                have hQ9 := pd_mk [(aI k (a 41) 4 (nF wb__6)), ((a 0), .inr (8, (fX8 a (nI tx) fp (nI t0) wd (nI we) nu na (nI rd) ts (nI ru) (nI rw) (nI ca) df db sd))), (aI k (a 1) 3 (nF dn)), (aI k (a 4) 27 (sg se tm gs)), (aI k (a 2) 72 ffrees), (aI k (a 3) 72 fprices), (aI k (a 36) 4 fwalks), (aI k (a 37) 4 (nF br__44)), (aI k (a 40) 4 fdoorsOf__44)] hP hD
                clear hP hD
                obtain ⟨hP, hD⟩ := hQ9
                try dsimp only at hw_44
                obtain ⟨hir_45, hie_45, hib_45, hid_45⟩ := hw_44
                rcases hir_45 with ⟨rfl, hir_45⟩ | ⟨rfl, hir_45⟩
                · refine lv_if_eq (tgt := 123) hx hb dX8_allRests_116 (by decide) (fun h => absurd h (by decide)) (fun _ => ?_)
                  refine lv_iconst (v := 1) hx hb dX8_allRests_119 (by decide) ?_
                  refine lv_goto (tgt := 124) hx hb dX8_allRests_120 (by decide) ?_
                  refine lv_iadd hx hb dX8_allRests_124 ?_
                  refine lv_ti (y := (nI (mm_26 + 1))) (nI_add mm_26 1) ?_
                  refine lv_istore (lv' := [(4, .int (nI (mm_26 + 1))), (6, .int (nI bb_26)), (5, .int (nI aa_7)), (3, .int (nI (dn j_2))), (0, .ref (a 0)), (1, .int (nI j_2)), (2, .int (nI se_4))]) hx hb dX8_allRests_125 hl (by decide) rfl (fun ls hl => ?_)
                  refine lv_iinc (v := (nI (bb_26 + 1))) (lv' := [(6, .int (nI (bb_26 + 1))), (4, .int (nI (mm_26 + 1))), (5, .int (nI aa_7)), (3, .int (nI (dn j_2))), (0, .ref (a 0)), (1, .int (nI j_2)), (2, .int (nI se_4))]) hx hb dX8_allRests_127 hl (k := 1) rfl (nI_add bb_26 1) (by decide) rfl (fun ls hl => ?_)
                  refine lv_goto (tgt := 74) hx hb dX8_allRests_130 (by decide) ?_
                  exact ih_26 _ (bb_26 + 1, mm_26 + 1, br__44, fdoorsOf__44) _ _ _ (by omega) ⟨rfl, ⟨by omega, (by show _ = crO (rsA (dn j_2) ca se_4 (fun c i => pD (sdM dn (sg se tm gs) ffrees fprices j_2) (fwalks c) df (db * 1000) i)) (crM 1 ca (dn j_2) + 1) aa_7 + (crI ((rsA (dn j_2) ca se_4 (fun c i => pD (sdM dn (sg se tm gs) ffrees fprices j_2) (fwalks c) df (db * 1000) i)) aa_7) bb_26 + rsB (rsP (dn j_2) ca se_4 (fun c i => pD (sdM dn (sg se tm gs) ffrees fprices j_2) (fwalks c) df (db * 1000) i) (vc aa_7 bb_26))); rw [rsB_1 (rsP_congr (fun _ _ _ _ => rfl) hvc_43 hir_45), hv_26.2.1, Nat.add_assoc]), hib_45, hid_45⟩, (hP.sub [2, 3, 4, 5, 6, 8, 1, 7, 0] rfl), (hD.sub [2, 3, 4, 5, 6, 8, 1, 7, 0] (by decide +kernel) rfl), hS, (lv_sub hl [0, 2, 1, 3, 4, 5, 6] rfl)⟩
                · refine lv_if_eq (tgt := 123) hx hb dX8_allRests_116 (by decide) (fun _ => ?_) (fun h => absurd (by decide) h)
                  refine lv_iconst (v := 0) hx hb dX8_allRests_123 (by decide) ?_
                  refine lv_iadd hx hb dX8_allRests_124 ?_
                  refine lv_ti (y := (nI (mm_26 + 0))) (nI_add mm_26 0) ?_
                  refine lv_istore (lv' := [(4, .int (nI (mm_26 + 0))), (6, .int (nI bb_26)), (5, .int (nI aa_7)), (3, .int (nI (dn j_2))), (0, .ref (a 0)), (1, .int (nI j_2)), (2, .int (nI se_4))]) hx hb dX8_allRests_125 hl (by decide) rfl (fun ls hl => ?_)
                  refine lv_iinc (v := (nI (bb_26 + 1))) (lv' := [(6, .int (nI (bb_26 + 1))), (4, .int (nI (mm_26 + 0))), (5, .int (nI aa_7)), (3, .int (nI (dn j_2))), (0, .ref (a 0)), (1, .int (nI j_2)), (2, .int (nI se_4))]) hx hb dX8_allRests_127 hl (k := 1) rfl (nI_add bb_26 1) (by decide) rfl (fun ls hl => ?_)
                  refine lv_goto (tgt := 74) hx hb dX8_allRests_130 (by decide) ?_
                  exact ih_26 _ (bb_26 + 1, mm_26 + 0, br__44, fdoorsOf__44) _ _ _ (by omega) ⟨rfl, ⟨by omega, (by show _ = crO (rsA (dn j_2) ca se_4 (fun c i => pD (sdM dn (sg se tm gs) ffrees fprices j_2) (fwalks c) df (db * 1000) i)) (crM 1 ca (dn j_2) + 1) aa_7 + (crI ((rsA (dn j_2) ca se_4 (fun c i => pD (sdM dn (sg se tm gs) ffrees fprices j_2) (fwalks c) df (db * 1000) i)) aa_7) bb_26 + rsB (rsP (dn j_2) ca se_4 (fun c i => pD (sdM dn (sg se tm gs) ffrees fprices j_2) (fwalks c) df (db * 1000) i) (vc aa_7 bb_26))); rw [rsB_0 (fun q => hir_45 (rsP_congr (fun _ _ _ _ => rfl) (fun j hj => (hvc_43 j hj).symm) q)), hv_26.2.1, Nat.add_assoc]), hib_45, hid_45⟩, (hP.sub [2, 3, 4, 5, 6, 8, 1, 7, 0] rfl), (hD.sub [2, 3, 4, 5, 6, 8, 1, 7, 0] (by decide +kernel) rfl), hS, (lv_sub hl [0, 2, 1, 3, 4, 5, 6] rfl)⟩
      · have c_5 : ¬ (ca ≤ 2) := fun h => c_5 ((nI_leI (a := ca) (b := 2) (by omega) (by omega)).mpr h)
        refine lv_sipush (v := (-1003)) hx hb dX8_allRests_33 (by decide) ?_
        obtain ⟨hP9, hD9⟩ := pd_sub [((a 0), .inr (8, (fX8 a (nI tx) fp (nI t0) wd (nI we) nu na (nI rd) ts (nI ru) (nI rw) (nI ca) df db sd))), (aI k (a 1) 3 (nF dn)), (aI k (a 4) 27 (sg se tm gs)), (aI k (a 2) 72 ffrees), (aI k (a 3) 72 fprices), (aI k (a 36) 4 fwalks), (aI k (a 37) 4 (nF br)), (aI k (a 40) 4 fdoorsOf), (aI k (a 41) 4 (nF wb))] [0, 1, 2, 3, 4, 5, 6, 7, 8] hP hD (by decide +kernel) rfl
        exact W.iret (v := (-1003)) hx hb hr (fun t ht hW => ⟨⟨(-1003), (br, fdoorsOf, wb), rfl, ⟨tq_at (s := j_2) (by omega) (show 0 < dn j_2 by omega) (show arA (nI se_4) ca fwalks (sdM dn (sg se tm gs) ffrees fprices j_2) _ from ar_n hse_4 (by omega)), hbr, hdv, hwb⟩, by rw [ht]; exact hP9, hD9⟩, hS.F ht⟩) hS.2.2 dX8_allRests_36
    · refine lv_if_ne (tgt := 25) hx hb dX8_allRests_18 (by decide) (fun h => absurd (by decide) h) (fun _ => ?_)
      refine lv_sipush (v := (-1002)) hx hb dX8_allRests_21 (by decide) ?_
      obtain ⟨hP9, hD9⟩ := pd_sub [((a 0), .inr (8, (fX8 a (nI tx) fp (nI t0) wd (nI we) nu na (nI rd) ts (nI ru) (nI rw) (nI ca) df db sd))), (aI k (a 1) 3 (nF dn)), (aI k (a 4) 27 (sg se tm gs)), (aI k (a 2) 72 ffrees), (aI k (a 3) 72 fprices), (aI k (a 36) 4 fwalks), (aI k (a 37) 4 (nF br)), (aI k (a 40) 4 fdoorsOf), (aI k (a 41) 4 (nF wb))] [0, 1, 2, 3, 4, 5, 6, 7, 8] hP hD (by decide +kernel) rfl
      exact W.iret (v := (-1002)) hx hb hr (fun t ht hW => ⟨⟨(-1002), (br, fdoorsOf, wb), rfl, ⟨tq_at (s := j_2) (by omega) (show 0 < dn j_2 by omega) (show arA p1 ca fwalks (sdM dn (sg se tm gs) ffrees fprices j_2) _ from ar_o (fun ⟨S, h1, h2⟩ => hw_3 S h1 h2)), hbr, hdv, hwb⟩, by rw [ht]; exact hP9, hD9⟩, hS.F ht⟩) hS.2.2 dX8_allRests_24
  · refine lv_if_ne (tgt := 12) hx hb dX8_allRests_5 (by decide) (fun h => absurd (by decide) h) (fun _ => ?_)
    refine lv_sipush (v := (-1001)) hx hb dX8_allRests_8 (by decide) ?_
    obtain ⟨hP9, hD9⟩ := pd_sub [((a 0), .inr (8, (fX8 a (nI tx) fp (nI t0) wd (nI we) nu na (nI rd) ts (nI ru) (nI rw) (nI ca) df db sd))), (aI k (a 1) 3 (nF dn)), (aI k (a 4) 27 (sg se tm gs)), (aI k (a 2) 72 ffrees), (aI k (a 3) 72 fprices), (aI k (a 36) 4 fwalks), (aI k (a 37) 4 (nF br)), (aI k (a 40) 4 fdoorsOf), (aI k (a 41) 4 (nF wb))] [0, 1, 2, 3, 4, 5, 6, 7, 8] hP hD (by decide +kernel) rfl
    exact W.iret (v := (-1001)) hx hb hr (fun t ht hW => ⟨⟨(-1001), (br, fdoorsOf, wb), rfl, ⟨tq_no (fun s h1 h2 h3 => hw_1 s h1 h2 h3), hbr, hdv, hwb⟩, by rw [ht]; exact hP9, hD9⟩, hS.F ht⟩) hS.2.2 dX8_allRests_11


set_option maxHeartbeats 4000000 in
set_option maxRecDepth 100000 in
theorem n_mend (l : Launch) (D : va_G) (k : Nat → ClassId) (st : Nat → Nat) (lo : Nat) (a : Nat → Nat) (tx : Nat) (t0 : Nat) (we : Nat) (rd : Nat) (ru : Nat) (rw : Nat) (ca : Nat) (fp : Int32) (wd : Int64) (nu : Int32) (na : Int32) (ts : Int32) (df : Int32) (db : Int32) (sd : Int32) (dn : Nat → Nat) (se : Nat → Nat) (tm : Nat → Nat) (gs : Nat → Int32) (ffrees : Nat → Int32) (fprices : Nat → Int32) (fwalks : Nat → Int32) (br : Nat → Nat) (fdoorsOf : Nat → Int32) (wb : Nat → Nat) (p0 : Int32) (p1 : Int32) (p2 : Int32) (hdn : ∀ j, dn j ≤ 24) (hca : ca ≤ 4) (hbr : ∀ j, br j ≤ 24) (hwb : ∀ j, wb j ≤ 24) (hdv : dvOK fdoorsOf) (hdb : db = 0) : CWi l D k st lo yX8_mend cX8_mend 9 (some .int) ({ frames := 7, cells := 0, slots := 0, locals := 171 }) 0 0 [.ref (a 0), .int p0, .int p1, .int p2] [((a 0), .inr (8, (fX8 a (nI tx) fp (nI t0) wd (nI we) nu na (nI rd) ts (nI ru) (nI rw) (nI ca) df db sd))), (aI k (a 1) 3 (nF dn)), (aI k (a 4) 27 (sg se tm gs)), (aI k (a 2) 72 ffrees), (aI k (a 3) 72 fprices), (aI k (a 36) 4 fwalks), (aI k (a 37) 4 (nF br)), (aI k (a 40) 4 fdoorsOf), (aI k (a 41) 4 (nF wb))] (fun (r : Int32) (u : Int32 × Int32 × (Nat → Nat) × (Nat → Int32) × (Nat → Nat)) => match u with | (df_, db_, br_, fdoorsOf_, wb_) => dqP (sdM dn (sg se tm gs) ffrees fprices) p0 p2 (mdA p1 ca fwalks) r ∧ db_ = 0 ∧ (∀ j, br_ j ≤ 24) ∧ dvOK fdoorsOf_ ∧ (∀ j, wb_ j ≤ 24)) (fun (u : Int32 × Int32 × (Nat → Nat) × (Nat → Int32) × (Nat → Nat)) => match u with | (df_, db_, br_, fdoorsOf_, wb_) => [((a 0), .inr (8, (fX8 a (nI tx) fp (nI t0) wd (nI we) nu na (nI rd) ts (nI ru) (nI rw) (nI ca) df_ db_ sd))), (aI k (a 1) 3 (nF dn)), (aI k (a 4) 27 (sg se tm gs)), (aI k (a 2) 72 ffrees), (aI k (a 3) 72 fprices), (aI k (a 36) 4 fwalks), (aI k (a 37) 4 (nF br_)), (aI k (a 40) 4 fdoorsOf_), (aI k (a 41) 4 (nF wb_))]) := by
  intro sz
  refine Met.ofW (cc := cX8_mend) (maxL := 9) (ret := (some .int)) (by decide) rfl ?_
  intro p e s m args below meth c s₁ B hml hv
  obtain ⟨rfl, hsz, hlo, hP, hK, hDL, hZ⟩ := hv
  have hx := B.exec
  have hb := B.bytes
  have hr := B.returns
  have hts := WS_ts B.pre
  have hown : s.vm.findClass RX8 = some m.cls := findClass_of_methodNamed B.named
  have hlocks := B.notSynchronized
  subst hsz
  have hD := hDL.self (sz := s.heap.size)
  have hAlo := A_lo hDL hlo
  generalize hAe : va_A [((a 0), .inr (8, (fX8 a (nI tx) fp (nI t0) wd (nI we) nu na (nI rd) ts (nI ru) (nI rw) (nI ca) df db sd))), (aI k (a 1) 3 (nF dn)), (aI k (a 4) 27 (sg se tm gs)), (aI k (a 2) 72 ffrees), (aI k (a 3) 72 fprices), (aI k (a 36) 4 fwalks), (aI k (a 37) 4 (nF br)), (aI k (a 40) 4 fdoorsOf), (aI k (a 41) 4 (nF wb))] s.heap.size = A at hD hAlo ⊢
  have hA : ∀ q : Nat, s.heap.size ≤ q → A q := fun q h => by rw [← hAe]; exact Or.inr h
  have hS : va_S A s.heap s.heap [] := va_S.rf
  have hl := lv_entry ([.ref (a 0), .int p0, .int p1, .int p2]) (n := 9) (Nat.le_of_ble_eq_true rfl)
  rw [lg_entry_eq]
  generalize (lg_sl ([.ref (a 0), .int p0, .int p1, .int p2]) ++ List.replicate (9 - (lg_sl ([.ref (a 0), .int p0, .int p1, .int p2])).length) Slot.unset).toArray = ls at hl ⊢
  have hl : lv_has ls 9 [(0, .ref (a 0)), (1, .int p0), (2, .int p1), (3, .int p2)] := hl
  refine lv_aload_n hx hb dX8_mend_0 rfl (lv_at hl 0 rfl) ?_
  refine lv_iload_n hx hb dX8_mend_1 rfl (lv_at hl 1 rfl) ?_
  refine ro_i (D := D) (va_runV (As := [.int p0]) (rest := []) ⟨hx, hb, hml, hown, hts⟩ ((n_isStreet l D k st lo a tx t0 we rd ru rw ca fp wd nu na ts df db sd dn p0 hdn) s.heap.size) (cwV 1 hts (gV tw_1189 tw_1191 tw_38 tw_87 tw_1192) rfl rfl rfl (by decide +kernel) ⟨Nat.le_of_ble_eq_true rfl, Nat.le_of_ble_eq_true rfl⟩) (pV hS hAlo hlo hP hK (va_Dlo hD hAlo) hZ [0, 1] (by decide) rfl (ci := 8) (q := (RX8, TX8, 44)) (q0 := 0) rfl rfl) rfl rfl hl.1 rfl (lv_room (Nat.le_of_ble_eq_true rfl)) dX8_mend_2 ⟨Nat.le_of_ble_eq_true rfl, Nat.le_of_ble_eq_true rfl⟩) hS hA hP (fun r_1 H locs hw_1 hP hS => ?_)
  try dsimp only at hw_1
  rcases hw_1 with ⟨rfl, j_2, hj_2, rfl, hw_1⟩ | ⟨rfl, hw_1⟩
  · have hdj_2 := hdn j_2
    refine lv_if_eq (tgt := 17) hx hb dX8_mend_5 (by decide) (fun h => absurd h (by decide)) (fun _ => ?_)
    refine lv_aload_n hx hb dX8_mend_8 rfl (lv_at hl 0 rfl) ?_
    refine lv_iload_n hx hb dX8_mend_9 rfl (lv_at hl 1 rfl) ?_
    refine lv_iload_n hx hb dX8_mend_10 rfl (lv_at hl 3 rfl) ?_
    refine ro_i (D := D) (va_runV (As := [.int (nI j_2), .int p2]) (rest := []) ⟨hx, hb, hml, hown, hts⟩ ((n_isDoor l D k st lo a tx t0 we rd ru rw ca fp wd nu na ts df db sd dn j_2 p2 hdn (by first | assumption | omega)) H.size) (cwV 2 hts (gV tw_1202 tw_1204 tw_40 tw_87 tw_1205) rfl rfl rfl (by decide +kernel) ⟨Nat.le_of_ble_eq_true rfl, Nat.le_of_ble_eq_true rfl⟩) (pV hS hAlo hlo hP hK (va_Dlo hD hAlo) hZ [0, 1] (by decide) rfl (ci := 8) (q := (RX8, TX8, 44)) (q0 := 0) rfl rfl) rfl rfl hl.1 rfl (lv_room (Nat.le_of_ble_eq_true rfl)) dX8_mend_11 ⟨Nat.le_of_ble_eq_true rfl, Nat.le_of_ble_eq_true rfl⟩) hS hA hP (fun r_3 H locs hw_3 hP hS => ?_)
    try dsimp only at hw_3
    rcases hw_3 with ⟨rfl, j_4, hj_4, rfl, hw_3⟩ | ⟨rfl, hw_3⟩
    · refine lv_if_ne (tgt := 21) hx hb dX8_mend_14 (by decide) (fun _ => ?_) (fun h => absurd h (by decide))
      refine lv_aload_n hx hb dX8_mend_21 rfl (lv_at hl 0 rfl) ?_
      refine lv_iload_n hx hb dX8_mend_22 rfl (lv_at hl 1 rfl) ?_
      refine lv_iload_n hx hb dX8_mend_23 rfl (lv_at hl 2 rfl) ?_
      refine ro_i (D := D) (va_runV (As := [.int (nI j_2), .int p1]) (rest := []) ⟨hx, hb, hml, hown, hts⟩ ((n_isSet l D k st lo a tx t0 we rd ru rw ca fp wd nu na ts df db sd dn j_2 p1 hdn (by first | assumption | omega)) H.size) (cwV 2 hts (gV tw_1390 tw_1392 tw_64 tw_87 tw_1393) rfl rfl rfl (by decide +kernel) ⟨Nat.le_of_ble_eq_true rfl, Nat.le_of_ble_eq_true rfl⟩) (pV hS hAlo hlo hP hK (va_Dlo hD hAlo) hZ [0, 1] (by decide) rfl (ci := 8) (q := (RX8, TX8, 44)) (q0 := 0) rfl rfl) rfl rfl hl.1 rfl (lv_room (Nat.le_of_ble_eq_true rfl)) dX8_mend_24 ⟨Nat.le_of_ble_eq_true rfl, Nat.le_of_ble_eq_true rfl⟩) hS hA hP (fun r_5 H locs hw_5 hP hS => ?_)
      try dsimp only at hw_5
      rcases hw_5 with ⟨rfl, se_6, hse_6, rfl⟩ | ⟨rfl, hw_5⟩
      · refine lv_if_ne (tgt := 34) hx hb dX8_mend_27 (by decide) (fun _ => ?_) (fun h => absurd h (by decide))
        have hpw_9 := pw31 (hdn j_2)
        refine lv_aload_n hx hb dX8_mend_34 rfl (lv_at hl 0 rfl) ?_
        refine rw_v (D := D) (wr := [(aI k (a 1) 3 (nF dn)), (aI k (a 4) 27 (sg se tm gs)), (aI k (a 2) 72 ffrees), (aI k (a 3) 72 fprices), (aI k (a 36) 4 fwalks), (aI k (a 40) 4 fdoorsOf)]) (va_runV (As := []) (rest := []) ⟨hx, hb, hml, hown, hts⟩ ((m_holdBars l D k st lo a tx t0 we rd ru rw ca fp wd nu na ts df db sd br wb hbr hwb) H.size) (cwV 0 hts (gV tw_1430 tw_1432 tw_71 tw_87 tw_1433) rfl rfl rfl (by decide +kernel) ⟨Nat.le_of_ble_eq_true rfl, Nat.le_of_ble_eq_true rfl⟩) (pV hS hAlo hlo hP hK (va_Dlo hD hAlo) hZ [0, 6, 8] (by decide) rfl (ci := 8) (q := (RX8, TX8, 44)) (q0 := 0) rfl rfl) rfl rfl hl.1 rfl (lv_room (Nat.le_of_ble_eq_true rfl)) dX8_mend_35 ⟨Nat.le_of_ble_eq_true rfl, Nat.le_of_ble_eq_true rfl⟩) hS hA hP hD [0, 6, 8] [1, 2, 3, 4, 5, 7] rfl rfl (by decide) (by decide) (fun u H locs hw_7 hP hD hS => ?_)
        obtain ⟨wb__7, rfl⟩ : ∃ z, z = u := ⟨_, rfl⟩
        have hQ9 := pd_mk [(aI k (a 1) 3 (nF dn)), (aI k (a 4) 27 (sg se tm gs)), (aI k (a 2) 72 ffrees), (aI k (a 3) 72 fprices), (aI k (a 36) 4 fwalks), (aI k (a 40) 4 fdoorsOf), ((a 0), .inr (8, (fX8 a (nI tx) fp (nI t0) wd (nI we) nu na (nI rd) ts (nI ru) (nI rw) (nI ca) df db sd))), (aI k (a 37) 4 (nF br)), (aI k (a 41) 4 (nF wb__7))] hP hD
        clear hP hD
        obtain ⟨hP, hD⟩ := hQ9
        try dsimp only at hw_7
        refine lv_iconst (v := 0) hx hb dX8_mend_38 (by decide) ?_
        refine lv_istore (lv' := [(4, .int 0), (0, .ref (a 0)), (1, .int (nI j_2)), (2, .int (nI se_6)), (3, .int (nI j_4))]) hx hb dX8_mend_39 hl (by decide) rfl (fun ls hl => ?_)
        refine lv_iconst (v := 0) hx hb dX8_mend_41 (by decide) ?_
        refine lv_istore (lv' := [(5, .int 0), (4, .int 0), (0, .ref (a 0)), (1, .int (nI j_2)), (2, .int (nI se_6)), (3, .int (nI j_4))]) hx hb dX8_mend_42 hl (by decide) rfl (fun ls hl => ?_)
        refine lv_iconst (v := 0) hx hb dX8_mend_44 (by decide) ?_
        refine lv_istore (lv' := [(6, .int 0), (5, .int 0), (4, .int 0), (0, .ref (a 0)), (1, .int (nI j_2)), (2, .int (nI se_6)), (3, .int (nI j_4))]) hx hb dX8_mend_45 hl (by decide) rfl (fun ls hl => ?_)
        refine W_loop (σ := Nat × Nat × Int32 × Int32 × Int32 × (Nat → Nat) × (Nat → Int32)) (fun (n_ : Nat) (x_ : Nat × Nat × Int32 × Int32 × Int32 × (Nat → Nat) × (Nat → Int32)) (H : Heap) (locs : List Loc) (ls : Array Slot) => match x_ with | (pp_8, be_8, le_8, df2_8, db2_8, b2_8, fd_8) => n_ = 22 - pp_8 ∧ (pp_8 ≤ 21 ∧ mdI (dn j_2) se_6 ca (fun q c i => pD (sdM dn (sg se tm gs) ffrees fprices j_2) (fwalks c) (nI j_4) (nI (10 * q) * 1000) i) (fun c i => pD (sdM dn (sg se tm gs) ffrees fprices j_2) (fwalks c) (nI j_4) (0 * 1000) i) pp_8 le_8 be_8 ∧ db2_8 = 0 ∧ (∀ j, b2_8 j ≤ 24) ∧ dvOK fd_8) ∧ va_P D classes [(aI k (a 1) 3 (nF dn)), (aI k (a 4) 27 (sg se tm gs)), (aI k (a 2) 72 ffrees), (aI k (a 3) 72 fprices), (aI k (a 36) 4 fwalks), (aI k (a 40) 4 fd_8), ((a 0), .inr (8, (fX8 a (nI tx) fp (nI t0) wd (nI we) nu na (nI rd) ts (nI ru) (nI rw) (nI ca) df2_8 db2_8 sd))), (aI k (a 37) 4 (nF b2_8)), (aI k (a 41) 4 (nF wb__7))] H ∧ va_D A [(aI k (a 1) 3 (nF dn)), (aI k (a 4) 27 (sg se tm gs)), (aI k (a 2) 72 ffrees), (aI k (a 3) 72 fprices), (aI k (a 36) 4 fwalks), (aI k (a 40) 4 fd_8), ((a 0), .inr (8, (fX8 a (nI tx) fp (nI t0) wd (nI we) nu na (nI rd) ts (nI ru) (nI rw) (nI ca) df2_8 db2_8 sd))), (aI k (a 37) 4 (nF b2_8)), (aI k (a 41) 4 (nF wb__7))] ∧ va_S A s.heap H locs ∧ lv_has ls 9 [(6, .int (nI pp_8)), (5, .int le_8), (4, .int (nI be_8)), (0, .ref (a 0)), (1, .int (nI j_2)), (2, .int (nI se_6)), (3, .int (nI j_4))]) (fun n_8 x_8 H locs ls hI ih_8 => ?_) _ (0, 0, 0, df, db, br, fdoorsOf) ⟨rfl, ⟨by omega, md_0, hdb, hbr, hdv⟩, hP, hD, hS, (lv_sub hl [0, 1, 2, 3, 4, 5, 6] rfl)⟩
        obtain ⟨pp_8, be_8, le_8, df2_8, db2_8, b2_8, fd_8⟩ := x_8
        obtain ⟨hm_8, hv_8, hP, hD, hS, hl⟩ := hI
        subst hm_8
        have hbl_8 := hv_8.2.2.2.1
        have hdvl_8 := hv_8.2.2.2.2
        refine lv_iload hx hb dX8_mend_47 (lv_at hl 0 rfl) ?_
        refine lv_bipush (v := 20) hx hb dX8_mend_49 (by decide) ?_
        refine lv_icmp_gt (tgt := 148) hx hb dX8_mend_51 (by decide) (fun c_9 => ?_) (fun c_9 => ?_)
        · have c_9 := (nI_ltI (a := 20) (b := pp_8) (by omega) (by omega)).mp c_9
          refine lv_aload_n hx hb dX8_mend_148 rfl (lv_at hl 3 rfl) ?_
          refine rw_v (D := D) (wr := [(aI k (a 1) 3 (nF dn)), (aI k (a 4) 27 (sg se tm gs)), (aI k (a 2) 72 ffrees), (aI k (a 3) 72 fprices), (aI k (a 36) 4 fwalks), (aI k (a 40) 4 fd_8)]) (va_runV (As := []) (rest := []) ⟨hx, hb, hml, hown, hts⟩ ((m_putBars l D k st lo a tx t0 we rd ru rw ca fp wd nu na ts df2_8 db2_8 sd wb__7 b2_8 hbl_8 hw_7) H.size) (cwV 0 hts (gV tw_1434 tw_1436 tw_72 tw_87 tw_1437) rfl rfl rfl (by decide +kernel) ⟨Nat.le_of_ble_eq_true rfl, Nat.le_of_ble_eq_true rfl⟩) (pV hS hAlo hlo hP hK (va_Dlo hD hAlo) hZ [6, 8, 7] (by decide) rfl (ci := 8) (q := (RX8, TX8, 44)) (q0 := 0) rfl rfl) rfl rfl hl.1 rfl (lv_room (Nat.le_of_ble_eq_true rfl)) dX8_mend_149 ⟨Nat.le_of_ble_eq_true rfl, Nat.le_of_ble_eq_true rfl⟩) hS hA hP hD [6, 8, 7] [0, 1, 2, 3, 4, 5] rfl rfl (by decide) (by decide) (fun u H locs hw_10 hP hD hS => ?_)
          obtain ⟨br__10, rfl⟩ : ∃ z, z = u := ⟨_, rfl⟩
          have hQ9 := pd_mk [(aI k (a 1) 3 (nF dn)), (aI k (a 4) 27 (sg se tm gs)), (aI k (a 2) 72 ffrees), (aI k (a 3) 72 fprices), (aI k (a 36) 4 fwalks), (aI k (a 40) 4 fd_8), ((a 0), .inr (8, (fX8 a (nI tx) fp (nI t0) wd (nI we) nu na (nI rd) ts (nI ru) (nI rw) (nI ca) df2_8 db2_8 sd))), (aI k (a 41) 4 (nF wb__7)), (aI k (a 37) 4 (nF br__10))] hP hD
          clear hP hD
          obtain ⟨hP, hD⟩ := hQ9
          try dsimp only at hw_10
          refine lv_iload hx hb dX8_mend_152 (lv_at hl 2 rfl) ?_
          obtain ⟨hP9, hD9⟩ := pd_sub [((a 0), .inr (8, (fX8 a (nI tx) fp (nI t0) wd (nI we) nu na (nI rd) ts (nI ru) (nI rw) (nI ca) df2_8 db2_8 sd))), (aI k (a 1) 3 (nF dn)), (aI k (a 4) 27 (sg se tm gs)), (aI k (a 2) 72 ffrees), (aI k (a 3) 72 fprices), (aI k (a 36) 4 fwalks), (aI k (a 37) 4 (nF br__10)), (aI k (a 40) 4 fd_8), (aI k (a 41) 4 (nF wb__7))] [6, 0, 1, 2, 3, 4, 8, 5, 7] hP hD (by decide +kernel) rfl
          exact W.iret (v := (nI be_8)) hx hb hr (fun t ht hW => ⟨⟨(nI be_8), (df2_8, db2_8, br__10, fd_8, wb__7), rfl, ⟨dq_at (s := j_2) (by omega) (show dn j_2 ≤ 24 by omega) (show j_4 < dn j_2 by omega) (show mdA (nI se_6) ca fwalks (sdM dn (sg se tm gs) ffrees fprices j_2) j_4 _ from md_m (n := dn j_2) (K := (fun q c i => pD (sdM dn (sg se tm gs) ffrees fprices j_2) (fwalks c) (nI j_4) (nI (10 * q) * 1000) i)) (K0 := (fun c i => pD (sdM dn (sg se tm gs) ffrees fprices j_2) (fwalks c) (nI j_4) (0 * 1000) i)) rfl (hdn _) hca hse_6 (fun q _ k _ i _ => congrArg (fun z => pD (sdM dn (sg se tm gs) ffrees fprices j_2) (fwalks k) (nI j_4) z i) m1000) (fun k _ i _ => pD_0C) (md_e (by have h9 := hv_8.2.1; rw [show pp_8 = 21 by omega] at h9; exact h9))), hv_8.2.2.1, hw_10, hdvl_8, hw_7⟩, by rw [ht]; exact hP9, hD9⟩, hS.F ht⟩) hS.2.2 dX8_mend_154
        · have c_9 : ¬ (20 < pp_8) := fun h => c_9 ((nI_ltI (a := 20) (b := pp_8) (by omega) (by omega)).mpr h)
          refine lv_iconst (v := 0) hx hb dX8_mend_54 (by decide) ?_
          refine lv_istore (lv' := [(7, .int 0), (6, .int (nI pp_8)), (5, .int le_8), (4, .int (nI be_8)), (0, .ref (a 0)), (1, .int (nI j_2)), (2, .int (nI se_6)), (3, .int (nI j_4))]) hx hb dX8_mend_55 hl (by decide) rfl (fun ls hl => ?_)
          refine lv_iload hx hb dX8_mend_57 (lv_at hl 0 rfl) ?_
          refine lv_iconst (v := 4) hx hb dX8_mend_59 (by decide) ?_
          refine lv_icmp_ge (tgt := 77) hx hb dX8_mend_60 (by decide) (fun h => absurd h (by decide)) (fun _ => ?_)
          refine lv_aload_n hx hb dX8_mend_63 rfl (lv_at hl 4 rfl) ?_
          refine va_get (D := D) (ci := 8) (v := .ref (a 37)) (C := RX8) (T := TX8) (N := 44) hx hb hts inX8 hown hK hP 6 rfl rfl 36 (by decide) (hts _ tw_1009) (fun _ h9 => h9) rfl dX8_mend_64 ?_
          refine lv_iload hx hb dX8_mend_67 (lv_at hl 0 rfl) ?_
          refine lv_iconst (v := 0) hx hb dX8_mend_69 (by decide) ?_
          refine va_iast hx hb hK hP hD hS 7 1 rfl rfl (by unfold vp_in; decide) dX8_mend_70 (fun H locs hP hD hS => ?_)
          have hQ9 := pd_mk [(aI k (a 1) 3 (nF dn)), (aI k (a 4) 27 (sg se tm gs)), (aI k (a 2) 72 ffrees), (aI k (a 3) 72 fprices), (aI k (a 36) 4 fwalks), (aI k (a 40) 4 fd_8), ((a 0), .inr (8, (fX8 a (nI tx) fp (nI t0) wd (nI we) nu na (nI rd) ts (nI ru) (nI rw) (nI ca) df2_8 db2_8 sd))), (aI k (a 37) 4 (upd (nF b2_8) (Int32.toNatClampNeg 0) 0)), (aI k (a 41) 4 (nF wb__7))] hP hD
          clear hP hD
          obtain ⟨hP, hD⟩ := hQ9
          rw [show upd (nF b2_8) (Int32.toNatClampNeg 0) 0 = nF (fun j => if j = 0 then 0 else b2_8 j) from nF_upd _ _ _] at hP hD
          obtain ⟨d_12, hd_12⟩ : ∃ z : Nat → Nat, z = (fun j => if j = 0 then 0 else b2_8 j) := ⟨_, rfl⟩
          rw [← hd_12] at hP hD
          have hbb_12 : ∀ j, d_12 j ≤ 24 := by rw [hd_12]; exact up_le hbl_8 (by omega)
          refine lv_iinc (v := 1) (lv' := [(7, .int 1), (6, .int (nI pp_8)), (5, .int le_8), (4, .int (nI be_8)), (0, .ref (a 0)), (1, .int (nI j_2)), (2, .int (nI se_6)), (3, .int (nI j_4))]) hx hb dX8_mend_71 hl (k := 0) rfl (by decide) (by decide) rfl (fun ls hl => ?_)
          refine lv_goto (tgt := 57) hx hb dX8_mend_74 (by decide) ?_
          refine lv_iload hx hb dX8_mend_57 (lv_at hl 0 rfl) ?_
          refine lv_iconst (v := 4) hx hb dX8_mend_59 (by decide) ?_
          refine lv_icmp_ge (tgt := 77) hx hb dX8_mend_60 (by decide) (fun h => absurd h (by decide)) (fun _ => ?_)
          refine lv_aload_n hx hb dX8_mend_63 rfl (lv_at hl 4 rfl) ?_
          refine va_get (D := D) (ci := 8) (v := .ref (a 37)) (C := RX8) (T := TX8) (N := 44) hx hb hts inX8 hown hK hP 6 rfl rfl 36 (by decide) (hts _ tw_1009) (fun _ h9 => h9) rfl dX8_mend_64 ?_
          refine lv_iload hx hb dX8_mend_67 (lv_at hl 0 rfl) ?_
          refine lv_iconst (v := 0) hx hb dX8_mend_69 (by decide) ?_
          refine va_iast hx hb hK hP hD hS 7 1 rfl rfl (by unfold vp_in; decide) dX8_mend_70 (fun H locs hP hD hS => ?_)
          have hQ9 := pd_mk [(aI k (a 1) 3 (nF dn)), (aI k (a 4) 27 (sg se tm gs)), (aI k (a 2) 72 ffrees), (aI k (a 3) 72 fprices), (aI k (a 36) 4 fwalks), (aI k (a 40) 4 fd_8), ((a 0), .inr (8, (fX8 a (nI tx) fp (nI t0) wd (nI we) nu na (nI rd) ts (nI ru) (nI rw) (nI ca) df2_8 db2_8 sd))), (aI k (a 37) 4 (upd (nF d_12) (Int32.toNatClampNeg 1) 0)), (aI k (a 41) 4 (nF wb__7))] hP hD
          clear hP hD
          obtain ⟨hP, hD⟩ := hQ9
          rw [show upd (nF d_12) (Int32.toNatClampNeg 1) 0 = nF (fun j => if j = 1 then 0 else d_12 j) from nF_upd _ _ _] at hP hD
          obtain ⟨d_14, hd_14⟩ : ∃ z : Nat → Nat, z = (fun j => if j = 1 then 0 else d_12 j) := ⟨_, rfl⟩
          rw [← hd_14] at hP hD
          have hbb_14 : ∀ j, d_14 j ≤ 24 := by rw [hd_14]; exact up_le hbb_12 (by omega)
          refine lv_iinc (v := 2) (lv' := [(7, .int 2), (6, .int (nI pp_8)), (5, .int le_8), (4, .int (nI be_8)), (0, .ref (a 0)), (1, .int (nI j_2)), (2, .int (nI se_6)), (3, .int (nI j_4))]) hx hb dX8_mend_71 hl (k := 0) rfl (by decide) (by decide) rfl (fun ls hl => ?_)
          refine lv_goto (tgt := 57) hx hb dX8_mend_74 (by decide) ?_
          refine lv_iload hx hb dX8_mend_57 (lv_at hl 0 rfl) ?_
          refine lv_iconst (v := 4) hx hb dX8_mend_59 (by decide) ?_
          refine lv_icmp_ge (tgt := 77) hx hb dX8_mend_60 (by decide) (fun h => absurd h (by decide)) (fun _ => ?_)
          refine lv_aload_n hx hb dX8_mend_63 rfl (lv_at hl 4 rfl) ?_
          refine va_get (D := D) (ci := 8) (v := .ref (a 37)) (C := RX8) (T := TX8) (N := 44) hx hb hts inX8 hown hK hP 6 rfl rfl 36 (by decide) (hts _ tw_1009) (fun _ h9 => h9) rfl dX8_mend_64 ?_
          refine lv_iload hx hb dX8_mend_67 (lv_at hl 0 rfl) ?_
          refine lv_iconst (v := 0) hx hb dX8_mend_69 (by decide) ?_
          refine va_iast hx hb hK hP hD hS 7 1 rfl rfl (by unfold vp_in; decide) dX8_mend_70 (fun H locs hP hD hS => ?_)
          have hQ9 := pd_mk [(aI k (a 1) 3 (nF dn)), (aI k (a 4) 27 (sg se tm gs)), (aI k (a 2) 72 ffrees), (aI k (a 3) 72 fprices), (aI k (a 36) 4 fwalks), (aI k (a 40) 4 fd_8), ((a 0), .inr (8, (fX8 a (nI tx) fp (nI t0) wd (nI we) nu na (nI rd) ts (nI ru) (nI rw) (nI ca) df2_8 db2_8 sd))), (aI k (a 37) 4 (upd (nF d_14) (Int32.toNatClampNeg 2) 0)), (aI k (a 41) 4 (nF wb__7))] hP hD
          clear hP hD
          obtain ⟨hP, hD⟩ := hQ9
          rw [show upd (nF d_14) (Int32.toNatClampNeg 2) 0 = nF (fun j => if j = 2 then 0 else d_14 j) from nF_upd _ _ _] at hP hD
          obtain ⟨d_16, hd_16⟩ : ∃ z : Nat → Nat, z = (fun j => if j = 2 then 0 else d_14 j) := ⟨_, rfl⟩
          rw [← hd_16] at hP hD
          have hbb_16 : ∀ j, d_16 j ≤ 24 := by rw [hd_16]; exact up_le hbb_14 (by omega)
          refine lv_iinc (v := 3) (lv' := [(7, .int 3), (6, .int (nI pp_8)), (5, .int le_8), (4, .int (nI be_8)), (0, .ref (a 0)), (1, .int (nI j_2)), (2, .int (nI se_6)), (3, .int (nI j_4))]) hx hb dX8_mend_71 hl (k := 0) rfl (by decide) (by decide) rfl (fun ls hl => ?_)
          refine lv_goto (tgt := 57) hx hb dX8_mend_74 (by decide) ?_
          refine lv_iload hx hb dX8_mend_57 (lv_at hl 0 rfl) ?_
          refine lv_iconst (v := 4) hx hb dX8_mend_59 (by decide) ?_
          refine lv_icmp_ge (tgt := 77) hx hb dX8_mend_60 (by decide) (fun h => absurd h (by decide)) (fun _ => ?_)
          refine lv_aload_n hx hb dX8_mend_63 rfl (lv_at hl 4 rfl) ?_
          refine va_get (D := D) (ci := 8) (v := .ref (a 37)) (C := RX8) (T := TX8) (N := 44) hx hb hts inX8 hown hK hP 6 rfl rfl 36 (by decide) (hts _ tw_1009) (fun _ h9 => h9) rfl dX8_mend_64 ?_
          refine lv_iload hx hb dX8_mend_67 (lv_at hl 0 rfl) ?_
          refine lv_iconst (v := 0) hx hb dX8_mend_69 (by decide) ?_
          refine va_iast hx hb hK hP hD hS 7 1 rfl rfl (by unfold vp_in; decide) dX8_mend_70 (fun H locs hP hD hS => ?_)
          have hQ9 := pd_mk [(aI k (a 1) 3 (nF dn)), (aI k (a 4) 27 (sg se tm gs)), (aI k (a 2) 72 ffrees), (aI k (a 3) 72 fprices), (aI k (a 36) 4 fwalks), (aI k (a 40) 4 fd_8), ((a 0), .inr (8, (fX8 a (nI tx) fp (nI t0) wd (nI we) nu na (nI rd) ts (nI ru) (nI rw) (nI ca) df2_8 db2_8 sd))), (aI k (a 37) 4 (upd (nF d_16) (Int32.toNatClampNeg 3) 0)), (aI k (a 41) 4 (nF wb__7))] hP hD
          clear hP hD
          obtain ⟨hP, hD⟩ := hQ9
          rw [show upd (nF d_16) (Int32.toNatClampNeg 3) 0 = nF (fun j => if j = 3 then 0 else d_16 j) from nF_upd _ _ _] at hP hD
          obtain ⟨d_18, hd_18⟩ : ∃ z : Nat → Nat, z = (fun j => if j = 3 then 0 else d_16 j) := ⟨_, rfl⟩
          rw [← hd_18] at hP hD
          have hbb_18 : ∀ j, d_18 j ≤ 24 := by rw [hd_18]; exact up_le hbb_16 (by omega)
          refine lv_iinc (v := 4) (lv' := [(7, .int 4), (6, .int (nI pp_8)), (5, .int le_8), (4, .int (nI be_8)), (0, .ref (a 0)), (1, .int (nI j_2)), (2, .int (nI se_6)), (3, .int (nI j_4))]) hx hb dX8_mend_71 hl (k := 0) rfl (by decide) (by decide) rfl (fun ls hl => ?_)
          refine lv_goto (tgt := 57) hx hb dX8_mend_74 (by decide) ?_
          refine lv_iload hx hb dX8_mend_57 (lv_at hl 0 rfl) ?_
          refine lv_iconst (v := 4) hx hb dX8_mend_59 (by decide) ?_
          refine lv_icmp_ge (tgt := 77) hx hb dX8_mend_60 (by decide) (fun _ => ?_) (fun h => absurd (by decide) h)
          have hz4_19 : eq4 d_18 (fun _ => 0) := by intro j hj; rcases (show j = 0 ∨ j = 1 ∨ j = 2 ∨ j = 3 by omega) with e | e | e | e <;> rw [e, hd_18, hd_16, hd_14, hd_12] <;> rfl
          have hzl_19 : le4 (dn j_2) d_18 := fun j hj => by rw [hz4_19 j hj]; exact Nat.zero_le _
          refine lv_aload_n hx hb dX8_mend_77 rfl (lv_at hl 4 rfl) ?_
          refine lv_iload_n hx hb dX8_mend_78 rfl (lv_at hl 7 rfl) ?_
          refine va_put (D := D) (ci := 8) (v := .int (nI j_4)) (ty := .int) (C := RX8) (T := TX8) (N := 44) hx hb hts inX8 tyX8 tyX8_ok nmX8 hown hK hP hD hS 6 rfl rfl 37 (by decide) (hts _ tw_1010) (fun _ h9 => h9) rfl (by decide +kernel) rfl rfl (Nat.le_of_ble_eq_true rfl) dX8_mend_79 (fun H locs hP hD hS => ?_)
          have hQ9 := pd_mk [(aI k (a 1) 3 (nF dn)), (aI k (a 4) 27 (sg se tm gs)), (aI k (a 2) 72 ffrees), (aI k (a 3) 72 fprices), (aI k (a 36) 4 fwalks), (aI k (a 40) 4 fd_8), ((a 0), .inr (8, (fX8 a (nI tx) fp (nI t0) wd (nI we) nu na (nI rd) ts (nI ru) (nI rw) (nI ca) (nI j_4) db2_8 sd))), (aI k (a 37) 4 (nF d_18)), (aI k (a 41) 4 (nF wb__7))] hP hD
          clear hP hD
          obtain ⟨hP, hD⟩ := hQ9
          refine lv_aload_n hx hb dX8_mend_82 rfl (lv_at hl 4 rfl) ?_
          refine lv_bipush (v := 10) hx hb dX8_mend_83 (by decide) ?_
          refine lv_iload hx hb dX8_mend_85 (lv_at hl 1 rfl) ?_
          refine lv_imul hx hb dX8_mend_87 ?_
          refine lv_ti (y := (nI (10 * pp_8))) (pk_mul 10 pp_8) ?_
          refine va_put (D := D) (ci := 8) (v := .int (nI (10 * pp_8))) (ty := .int) (C := RX8) (T := TX8) (N := 44) hx hb hts inX8 tyX8 tyX8_ok nmX8 hown hK hP hD hS 6 rfl rfl 38 (by decide) (hts _ tw_1011) (fun _ h9 => h9) rfl (by decide +kernel) rfl rfl (Nat.le_of_ble_eq_true rfl) dX8_mend_88 (fun H locs hP hD hS => ?_)
          have hQ9 := pd_mk [(aI k (a 1) 3 (nF dn)), (aI k (a 4) 27 (sg se tm gs)), (aI k (a 2) 72 ffrees), (aI k (a 3) 72 fprices), (aI k (a 36) 4 fwalks), (aI k (a 40) 4 fd_8), ((a 0), .inr (8, (fX8 a (nI tx) fp (nI t0) wd (nI we) nu na (nI rd) ts (nI ru) (nI rw) (nI ca) (nI j_4) (nI (10 * pp_8)) sd))), (aI k (a 37) 4 (nF d_18)), (aI k (a 41) 4 (nF wb__7))] hP hD
          clear hP hD
          obtain ⟨hP, hD⟩ := hQ9
          refine lv_aload_n hx hb dX8_mend_91 rfl (lv_at hl 4 rfl) ?_
          refine lv_iload_n hx hb dX8_mend_92 rfl (lv_at hl 5 rfl) ?_
          refine lv_iload_n hx hb dX8_mend_93 rfl (lv_at hl 6 rfl) ?_
          refine rw_i (D := D) (wr := [(aI k (a 41) 4 (nF wb__7))]) (va_runV (As := [.int (nI j_2), .int (nI se_6)]) (rest := []) ⟨hx, hb, hml, hown, hts⟩ ((n_turnAll l D k st lo a tx t0 we rd ru rw ca fp wd nu na ts (nI j_4) (nI (10 * pp_8)) sd dn se tm gs ffrees fprices fwalks d_18 fd_8 j_2 se_6 hdn (by first | assumption | omega) hbb_18 (by first | assumption | omega) hdvl_8 hse_6 hzl_19) H.size) (cwV 2 hts (gV tw_1422 tw_1424 tw_70 tw_87 tw_1425) rfl rfl rfl (by decide +kernel) ⟨Nat.le_of_ble_eq_true rfl, Nat.le_of_ble_eq_true rfl⟩) (pV hS hAlo hlo hP hK (va_Dlo hD hAlo) hZ [6, 0, 1, 2, 3, 4, 7, 5] (by decide) rfl (ci := 8) (q := (RX8, TX8, 44)) (q0 := 0) rfl rfl) rfl rfl hl.1 rfl (lv_room (Nat.le_of_ble_eq_true rfl)) dX8_mend_94 ⟨Nat.le_of_ble_eq_true rfl, Nat.le_of_ble_eq_true rfl⟩) hS hA hP hD [6, 0, 1, 2, 3, 4, 7, 5] [8] rfl rfl (by decide) (by decide) (fun r_20 u H locs hw_20 hP hD hS => ?_)
          obtain ⟨br__20, fdoorsOf__20⟩ := u
          have hQ9 := pd_mk [(aI k (a 41) 4 (nF wb__7)), ((a 0), .inr (8, (fX8 a (nI tx) fp (nI t0) wd (nI we) nu na (nI rd) ts (nI ru) (nI rw) (nI ca) (nI j_4) (nI (10 * pp_8)) sd))), (aI k (a 1) 3 (nF dn)), (aI k (a 4) 27 (sg se tm gs)), (aI k (a 2) 72 ffrees), (aI k (a 3) 72 fprices), (aI k (a 36) 4 fwalks), (aI k (a 37) 4 (nF br__20)), (aI k (a 40) 4 fdoorsOf__20)] hP hD
          clear hP hD
          obtain ⟨hP, hD⟩ := hQ9
          try dsimp only at hw_20
          obtain ⟨hnn_21, hgt_21, hgb_21, hg4_21, hgd_21⟩ := hw_20
          refine lv_istore (lv' := [(7, .int r_20), (6, .int (nI pp_8)), (5, .int le_8), (4, .int (nI be_8)), (0, .ref (a 0)), (1, .int (nI j_2)), (2, .int (nI se_6)), (3, .int (nI j_4))]) hx hb dX8_mend_97 hl (by decide) rfl (fun ls hl => ?_)
          refine lv_aload_n hx hb dX8_mend_99 rfl (lv_at hl 4 rfl) ?_
          refine lv_iconst (v := 0) hx hb dX8_mend_100 (by decide) ?_
          refine va_put (D := D) (ci := 8) (v := .int 0) (ty := .int) (C := RX8) (T := TX8) (N := 44) hx hb hts inX8 tyX8 tyX8_ok nmX8 hown hK hP hD hS 1 rfl rfl 38 (by decide) (hts _ tw_1011) (fun _ h9 => h9) rfl (by decide +kernel) rfl rfl (Nat.le_of_ble_eq_true rfl) dX8_mend_101 (fun H locs hP hD hS => ?_)
          have hQ9 := pd_mk [(aI k (a 41) 4 (nF wb__7)), ((a 0), .inr (8, (fX8 a (nI tx) fp (nI t0) wd (nI we) nu na (nI rd) ts (nI ru) (nI rw) (nI ca) (nI j_4) 0 sd))), (aI k (a 1) 3 (nF dn)), (aI k (a 4) 27 (sg se tm gs)), (aI k (a 2) 72 ffrees), (aI k (a 3) 72 fprices), (aI k (a 36) 4 fwalks), (aI k (a 37) 4 (nF br__20)), (aI k (a 40) 4 fdoorsOf__20)] hP hD
          clear hP hD
          obtain ⟨hP, hD⟩ := hQ9
          refine lv_iload hx hb dX8_mend_104 (lv_at hl 0 rfl) ?_
          refine lv_iconst (v := (-1)) hx hb dX8_mend_106 (by decide) ?_
          refine lv_icmp_ge (tgt := 114) hx hb dX8_mend_107 (by decide) (fun c_22 => ?_) (fun c_22 => absurd c_22 (fun h => h (Int32.not_lt.mp hnn_21)))
          refine lv_aload_n hx hb dX8_mend_114 rfl (lv_at hl 4 rfl) ?_
          refine lv_iload_n hx hb dX8_mend_115 rfl (lv_at hl 5 rfl) ?_
          refine lv_iload_n hx hb dX8_mend_116 rfl (lv_at hl 6 rfl) ?_
          refine rw_i (D := D) (wr := [(aI k (a 41) 4 (nF wb__7))]) (va_runV (As := [.int (nI j_2), .int (nI se_6)]) (rest := []) ⟨hx, hb, hml, hown, hts⟩ ((n_allCosts l D k st lo a tx t0 we rd ru rw ca fp wd nu na ts (nI j_4) 0 sd dn se tm gs ffrees fprices fwalks br__20 fdoorsOf__20 j_2 se_6 hdn (by first | assumption | omega) hgb_21 (by first | assumption | omega) hgd_21 hse_6) H.size) (cwV 2 hts (gV tw_1442 tw_1444 tw_73 tw_87 tw_1445) rfl rfl rfl (by decide +kernel) ⟨Nat.le_of_ble_eq_true rfl, Nat.le_of_ble_eq_true rfl⟩) (pV hS hAlo hlo hP hK (va_Dlo hD hAlo) hZ [1, 2, 3, 4, 5, 6, 7, 8] (by decide) rfl (ci := 8) (q := (RX8, TX8, 44)) (q0 := 0) rfl rfl) rfl rfl hl.1 rfl (lv_room (Nat.le_of_ble_eq_true rfl)) dX8_mend_117 ⟨Nat.le_of_ble_eq_true rfl, Nat.le_of_ble_eq_true rfl⟩) hS hA hP hD [1, 2, 3, 4, 5, 6, 7, 8] [0] rfl rfl (by decide) (by decide) (fun r_23 u H locs hw_23 hP hD hS => ?_)
          obtain ⟨fdoorsOf__23, rfl⟩ : ∃ z, z = u := ⟨_, rfl⟩
          have hQ9 := pd_mk [(aI k (a 41) 4 (nF wb__7)), ((a 0), .inr (8, (fX8 a (nI tx) fp (nI t0) wd (nI we) nu na (nI rd) ts (nI ru) (nI rw) (nI ca) (nI j_4) 0 sd))), (aI k (a 1) 3 (nF dn)), (aI k (a 4) 27 (sg se tm gs)), (aI k (a 2) 72 ffrees), (aI k (a 3) 72 fprices), (aI k (a 36) 4 fwalks), (aI k (a 37) 4 (nF br__20)), (aI k (a 40) 4 fdoorsOf__23)] hP hD
          clear hP hD
          obtain ⟨hP, hD⟩ := hQ9
          try dsimp only at hw_23
          have hal_24 : alP (dn j_2) se_6 ca (fun c i => pD (sdM dn (sg se tm gs) ffrees fprices j_2) (fwalks c) (nI j_4) (nI (10 * pp_8) * 1000) i) (fun c i => pD (sdM dn (sg se tm gs) ffrees fprices j_2) (fwalks c) (nI j_4) (0 * 1000) i) r_23 := ⟨br__20, gtP_e (tnT_le hca) (tnT_e hca (fun _ _ _ _ => rfl)) 50 d_18 (fun _ => 0) br__20 hzl_19 hz4_19 hgt_21, hw_23.1⟩
          refine lv_istore (lv' := [(8, .int r_23), (7, .int r_20), (6, .int (nI pp_8)), (5, .int le_8), (4, .int (nI be_8)), (0, .ref (a 0)), (1, .int (nI j_2)), (2, .int (nI se_6)), (3, .int (nI j_4))]) hx hb dX8_mend_120 hl (by decide) rfl (fun ls hl => ?_)
          refine lv_iload hx hb dX8_mend_122 (lv_at hl 2 rfl) ?_
          refine lv_if_eq (tgt := 134) hx hb dX8_mend_124 (by decide) (fun c_25 => ?_) (fun c_25 => ?_)
          · have c_25 := (nI_eq (a := pp_8) (b := 0) (by omega) (by omega)).mp c_25
            refine lv_iload hx hb dX8_mend_134 (lv_at hl 2 rfl) ?_
            refine lv_istore (lv' := [(4, .int (nI pp_8)), (8, .int r_23), (7, .int r_20), (6, .int (nI pp_8)), (5, .int le_8), (0, .ref (a 0)), (1, .int (nI j_2)), (2, .int (nI se_6)), (3, .int (nI j_4))]) hx hb dX8_mend_136 hl (by decide) rfl (fun ls hl => ?_)
            refine lv_iload hx hb dX8_mend_138 (lv_at hl 1 rfl) ?_
            refine lv_istore (lv' := [(5, .int r_23), (4, .int (nI pp_8)), (8, .int r_23), (7, .int r_20), (6, .int (nI pp_8)), (0, .ref (a 0)), (1, .int (nI j_2)), (2, .int (nI se_6)), (3, .int (nI j_4))]) hx hb dX8_mend_140 hl (by decide) rfl (fun ls hl => ?_)
            refine lv_iinc (v := (nI (pp_8 + 1))) (lv' := [(6, .int (nI (pp_8 + 1))), (5, .int r_23), (4, .int (nI pp_8)), (8, .int r_23), (7, .int r_20), (0, .ref (a 0)), (1, .int (nI j_2)), (2, .int (nI se_6)), (3, .int (nI j_4))]) hx hb dX8_mend_142 hl (k := 4) rfl (nI_add pp_8 1) (by decide) rfl (fun ls hl => ?_)
            refine lv_goto (tgt := 47) hx hb dX8_mend_145 (by decide) ?_
            exact ih_8 _ (pp_8 + 1, pp_8, r_23, (nI j_4), 0, br__20, fdoorsOf__23) _ _ _ (by omega) ⟨rfl, ⟨by omega, md_y hv_8.2.1 hal_24 (.inl (by omega)), rfl, hgb_21, hw_23.2⟩, (hP.sub [2, 3, 4, 5, 6, 8, 1, 7, 0] rfl), (hD.sub [2, 3, 4, 5, 6, 8, 1, 7, 0] (by decide +kernel) rfl), hS, (lv_sub hl [0, 1, 2, 5, 6, 7, 8] rfl)⟩
          · have c_25 : ¬ (pp_8 = 0) := fun h => c_25 ((nI_eq (a := pp_8) (b := 0) (by omega) (by omega)).mpr h)
            refine lv_iload hx hb dX8_mend_127 (lv_at hl 0 rfl) ?_
            refine lv_iload hx hb dX8_mend_129 (lv_at hl 3 rfl) ?_
            refine lv_icmp_ge (tgt := 142) hx hb dX8_mend_131 (by decide) (fun c_26 => ?_) (fun c_26 => ?_)
            · refine lv_iinc (v := (nI (pp_8 + 1))) (lv' := [(6, .int (nI (pp_8 + 1))), (8, .int r_23), (7, .int r_20), (5, .int le_8), (4, .int (nI be_8)), (0, .ref (a 0)), (1, .int (nI j_2)), (2, .int (nI se_6)), (3, .int (nI j_4))]) hx hb dX8_mend_142 hl (k := 2) rfl (nI_add pp_8 1) (by decide) rfl (fun ls hl => ?_)
              refine lv_goto (tgt := 47) hx hb dX8_mend_145 (by decide) ?_
              exact ih_8 _ (pp_8 + 1, be_8, le_8, (nI j_4), 0, br__20, fdoorsOf__23) _ _ _ (by omega) ⟨rfl, ⟨by omega, md_n hv_8.2.1 hal_24 (by omega) c_26, rfl, hgb_21, hw_23.2⟩, (hP.sub [2, 3, 4, 5, 6, 8, 1, 7, 0] rfl), (hD.sub [2, 3, 4, 5, 6, 8, 1, 7, 0] (by decide +kernel) rfl), hS, (lv_sub hl [0, 3, 4, 5, 6, 7, 8] rfl)⟩
            · refine lv_iload hx hb dX8_mend_134 (lv_at hl 2 rfl) ?_
              refine lv_istore (lv' := [(4, .int (nI pp_8)), (8, .int r_23), (7, .int r_20), (6, .int (nI pp_8)), (5, .int le_8), (0, .ref (a 0)), (1, .int (nI j_2)), (2, .int (nI se_6)), (3, .int (nI j_4))]) hx hb dX8_mend_136 hl (by decide) rfl (fun ls hl => ?_)
              refine lv_iload hx hb dX8_mend_138 (lv_at hl 1 rfl) ?_
              refine lv_istore (lv' := [(5, .int r_23), (4, .int (nI pp_8)), (8, .int r_23), (7, .int r_20), (6, .int (nI pp_8)), (0, .ref (a 0)), (1, .int (nI j_2)), (2, .int (nI se_6)), (3, .int (nI j_4))]) hx hb dX8_mend_140 hl (by decide) rfl (fun ls hl => ?_)
              refine lv_iinc (v := (nI (pp_8 + 1))) (lv' := [(6, .int (nI (pp_8 + 1))), (5, .int r_23), (4, .int (nI pp_8)), (8, .int r_23), (7, .int r_20), (0, .ref (a 0)), (1, .int (nI j_2)), (2, .int (nI se_6)), (3, .int (nI j_4))]) hx hb dX8_mend_142 hl (k := 4) rfl (nI_add pp_8 1) (by decide) rfl (fun ls hl => ?_)
              refine lv_goto (tgt := 47) hx hb dX8_mend_145 (by decide) ?_
              exact ih_8 _ (pp_8 + 1, pp_8, r_23, (nI j_4), 0, br__20, fdoorsOf__23) _ _ _ (by omega) ⟨rfl, ⟨by omega, md_y hv_8.2.1 hal_24 (.inr (Int32.not_le.mp c_26)), rfl, hgb_21, hw_23.2⟩, (hP.sub [2, 3, 4, 5, 6, 8, 1, 7, 0] rfl), (hD.sub [2, 3, 4, 5, 6, 8, 1, 7, 0] (by decide +kernel) rfl), hS, (lv_sub hl [0, 1, 2, 5, 6, 7, 8] rfl)⟩
      · refine lv_if_ne (tgt := 34) hx hb dX8_mend_27 (by decide) (fun h => absurd (by decide) h) (fun _ => ?_)
        refine lv_sipush (v := (-1002)) hx hb dX8_mend_30 (by decide) ?_
        obtain ⟨hP9, hD9⟩ := pd_sub [((a 0), .inr (8, (fX8 a (nI tx) fp (nI t0) wd (nI we) nu na (nI rd) ts (nI ru) (nI rw) (nI ca) df db sd))), (aI k (a 1) 3 (nF dn)), (aI k (a 4) 27 (sg se tm gs)), (aI k (a 2) 72 ffrees), (aI k (a 3) 72 fprices), (aI k (a 36) 4 fwalks), (aI k (a 37) 4 (nF br)), (aI k (a 40) 4 fdoorsOf), (aI k (a 41) 4 (nF wb))] [0, 1, 2, 3, 4, 5, 6, 7, 8] hP hD (by decide +kernel) rfl
        exact W.iret (v := (-1002)) hx hb hr (fun t ht hW => ⟨⟨(-1002), (df, db, br, fdoorsOf, wb), rfl, ⟨dq_at (s := j_2) (by omega) (show dn j_2 ≤ 24 by omega) (show j_4 < dn j_2 by omega) (show mdA p1 ca fwalks (sdM dn (sg se tm gs) ffrees fprices j_2) j_4 _ from md_o (fun ⟨S, h1, h2⟩ => hw_5 S h1 h2)), hdb, hbr, hdv, hwb⟩, by rw [ht]; exact hP9, hD9⟩, hS.F ht⟩) hS.2.2 dX8_mend_33
    · refine lv_if_ne (tgt := 21) hx hb dX8_mend_14 (by decide) (fun h => absurd (by decide) h) (fun _ => ?_)
      refine lv_sipush (v := (-1001)) hx hb dX8_mend_17 (by decide) ?_
      obtain ⟨hP9, hD9⟩ := pd_sub [((a 0), .inr (8, (fX8 a (nI tx) fp (nI t0) wd (nI we) nu na (nI rd) ts (nI ru) (nI rw) (nI ca) df db sd))), (aI k (a 1) 3 (nF dn)), (aI k (a 4) 27 (sg se tm gs)), (aI k (a 2) 72 ffrees), (aI k (a 3) 72 fprices), (aI k (a 36) 4 fwalks), (aI k (a 37) 4 (nF br)), (aI k (a 40) 4 fdoorsOf), (aI k (a 41) 4 (nF wb))] [0, 1, 2, 3, 4, 5, 6, 7, 8] hP hD (by decide +kernel) rfl
      exact W.iret (v := (-1001)) hx hb hr (fun t ht hW => ⟨⟨(-1001), (df, db, br, fdoorsOf, wb), rfl, ⟨dq_no (fun s h1 h2 i h3 h4 => by have h9 := nI_inj (by omega) (by omega) h2; subst h9; exact hw_3 i h3 h4), hdb, hbr, hdv, hwb⟩, by rw [ht]; exact hP9, hD9⟩, hS.F ht⟩) hS.2.2 dX8_mend_20
  · refine lv_if_eq (tgt := 17) hx hb dX8_mend_5 (by decide) (fun _ => ?_) (fun h => absurd (by decide) h)
    refine lv_sipush (v := (-1001)) hx hb dX8_mend_17 (by decide) ?_
    obtain ⟨hP9, hD9⟩ := pd_sub [((a 0), .inr (8, (fX8 a (nI tx) fp (nI t0) wd (nI we) nu na (nI rd) ts (nI ru) (nI rw) (nI ca) df db sd))), (aI k (a 1) 3 (nF dn)), (aI k (a 4) 27 (sg se tm gs)), (aI k (a 2) 72 ffrees), (aI k (a 3) 72 fprices), (aI k (a 36) 4 fwalks), (aI k (a 37) 4 (nF br)), (aI k (a 40) 4 fdoorsOf), (aI k (a 41) 4 (nF wb))] [0, 1, 2, 3, 4, 5, 6, 7, 8] hP hD (by decide +kernel) rfl
    exact W.iret (v := (-1001)) hx hb hr (fun t ht hW => ⟨⟨(-1001), (df, db, br, fdoorsOf, wb), rfl, ⟨dq_no (fun s h1 h2 i h3 h4 => hw_1 s h1 h2 (by show 0 < dn s; replace h4 : i < dn s := h4; omega)), hdb, hbr, hdv, hwb⟩, by rw [ht]; exact hP9, hD9⟩, hS.F ht⟩) hS.2.2 dX8_mend_20


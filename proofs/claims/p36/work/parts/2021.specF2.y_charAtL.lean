set_option maxHeartbeats 4000000 in
set_option maxRecDepth 100000 in
theorem y_charAtL (l : Launch) (D : va_G) (k : Nat → ClassId) (st : Nat → Nat) (lo : Nat) (wi : Nat) (i : Nat) (hwi : wi < 14) (hi : i < sLen.getD wi 0) : CWi l D k st lo yJ1_charAt_3b067 cJ1_charAt_3b067 2 (some .char) ({ frames := 2, cells := 0, slots := 0, locals := 43 }) 0 0 [.ref (st (200 + wi)), .int (nI i)] [] (fun (r : Int32) (_ : Unit) => r = (sByt.getD wi []).getD i 0) (fun (_ : Unit) => []) := by
  intro sz
  refine Met.ofW (cc := cJ1_charAt_3b067) (maxL := 2) (ret := (some .char)) (by decide) rfl ?_
  intro p e s m args below meth c s₁ B hml hv
  obtain ⟨rfl, hsz, hlo, hP, hK, hDL, hZ⟩ := hv
  have hx := B.exec
  have hb := B.bytes
  have hr := B.returns
  have hts := WS_ts B.pre
  have hown : s.vm.findClass RJ1 = some m.cls := findClass_of_methodNamed B.named
  have hlocks := B.notSynchronized
  subst hsz
  have hD := hDL.self (sz := s.heap.size)
  have hAlo := A_lo hDL hlo
  generalize hAe : va_A [] s.heap.size = A at hD hAlo ⊢
  have hA : ∀ q : Nat, s.heap.size ≤ q → A q := fun q h => by rw [← hAe]; exact Or.inr h
  have hS : va_S A s.heap s.heap [] := va_S.rf
  have hl := lv_entry ([.ref (st (200 + wi)), .int (nI i)]) (n := 2) (Nat.le_of_ble_eq_true rfl)
  rw [lg_entry_eq]
  generalize (lg_sl ([.ref (st (200 + wi)), .int (nI i)]) ++ List.replicate (2 - (lg_sl ([.ref (st (200 + wi)), .int (nI i)])).length) Slot.unset).toArray = ls at hl ⊢
  have hl : lv_has ls 2 [(0, .ref (st (200 + wi))), (1, .int (nI i))] := hl
  have hsl := sLen_le wi hwi
  refine lv_iload_n hx hb dJ1_charAt_3b067_0 rfl (lv_at hl 1 rfl) ?_
  refine lv_aload_n hx hb dJ1_charAt_3b067_1 rfl (lv_at hl 0 rfl) ?_
  refine va_tlen (A := A) hx hb ((hZ.2.2.2.2.2.2.2.2.2.1.1 wi (by omega)).2.2.2.narrow hAlo) hS (v := (nI (sLen.getD wi 0))) rfl dJ1_charAt_3b067_2 ?_
  refine rw_v (D := D) (wr := []) (va_runS (As := [.int (nI i), .int (nI (sLen.getD wi 0))]) (rest := []) ⟨hx, hb, hml, hown, hts⟩ ((x_six l D k st lo i (sLen.getD wi 0) (by omega) (by omega)) s.heap.size) (va_cwS 2 hts (gS tw_424 tw_425 tw_89 tw_426) rfl rfl rfl (by decide +kernel) ⟨Nat.le_of_ble_eq_true rfl, Nat.le_of_ble_eq_true rfl⟩) (pS hS hAlo hlo hP hK (va_Dlo hD hAlo) hZ [] (by decide) rfl) rfl rfl hl.1 rfl (lv_room (Nat.le_of_ble_eq_true rfl)) dJ1_charAt_3b067_3 ⟨Nat.le_of_ble_eq_true rfl, Nat.le_of_ble_eq_true rfl⟩) hS hA hP hD [] [] rfl rfl (by decide) (by decide) (fun u H locs hw_1 hP hD hS => ?_)
  replace hP : va_P D classes [] H := hP
  replace hD : va_D A [] := hD
  try dsimp only at hw_1
  refine lv_aload_n hx hb dJ1_charAt_3b067_6 rfl (lv_at hl 0 rfl) ?_
  refine lv_iload_n hx hb dJ1_charAt_3b067_7 rfl (lv_at hl 1 rfl) ?_
  refine va_tb (A := A) hx hb ((hZ.2.2.2.2.2.2.2.2.2.1.1 wi (by omega)).2.2.2.narrow hAlo) hS (i := (nI i)) (vp_in_nI (by omega) (by omega)) (v := .int ((sByt.getD wi []).getD i 0)) (by show Value.int ((sByt.getD wi []).getD ((nI i)).toNatClampNeg 0) = _; rw [nI_clamp (by omega)]) dJ1_charAt_3b067_8 ?_
  refine lv_sipush (v := 255) hx hb dJ1_charAt_3b067_9 (by decide) ?_
  refine lv_iand hx hb dJ1_charAt_3b067_12 ?_
  refine lv_topi (fun x_2 ex_2 => ?_)
  refine lv_ti (y := ((sByt.getD wi []).getD i 0)) (by rw [ex_2]; exact (chr_ok wi hwi i hi).1) ?_
  refine lv_i2c (v := ((sByt.getD wi []).getD i 0)) hx hb dJ1_charAt_3b067_13 (chr_ok wi hwi i hi).2.1 ?_
  have hP9 := hP.sub (ws' := []) [] rfl
  have hD9 := hD.sub (ws' := []) [] (by decide) rfl
  exact W.zret (v := ((sByt.getD wi []).getD i 0)) (ty := .char) hx hb hr (chr_ok wi hwi i hi).2.2 (fun t ht hW => ⟨⟨((sByt.getD wi []).getD i 0), (), rfl, rfl, by rw [ht]; exact hP9, hD9⟩, hS.F ht⟩) hS.2.2 dJ1_charAt_3b067_14


set_option maxHeartbeats 4000000 in
set_option maxRecDepth 100000 in
theorem y_isAtEnd (l : Launch) (D : va_G) (k : Nat → ClassId) (st : Nat → Nat) (lo : Nat) (x0 : Nat) (x1 : Nat) (tz : Nat) (ta : Nat) (na : Int32) (fn : Int32) (fb : Int32) (fx : Nat → Int32) (ht : ta ≤ tz) (hz : tz ≤ 240) : CWi l D k st lo yX6_isAtEnd cX6_isAtEnd 1 (some .boolean) ({ frames := 2, cells := 0, slots := 0, locals := 41 }) 0 0 [.ref x0] [(x0, .inr (6, (fX6 x1 (nI tz) (nI ta) na fn fb))), (aB k x1 240 fx)] (fun (r : Int32) (ta_ : Nat) => ((r = 1 ∧ tz ≤ ta_) ∨ (r = 0 ∧ ta_ < tz)) ∧ ta_ = skA (bF fx) tz ta ∧ ta ≤ ta_ ∧ ta_ ≤ tz) (fun (ta_ : Nat) => [(x0, .inr (6, (fX6 x1 (nI tz) (nI ta_) na fn fb))), (aB k x1 240 fx)]) := by
  intro sz
  refine Met.ofW (cc := cX6_isAtEnd) (maxL := 1) (ret := (some .boolean)) (by decide) rfl ?_
  intro p e s m args below meth c s₁ B hml hv
  obtain ⟨rfl, hsz, hlo, hP, hK, hDL, hZ⟩ := hv
  have hx := B.exec
  have hb := B.bytes
  have hr := B.returns
  have hts := WS_ts B.pre
  have hown : s.vm.findClass RX6 = some m.cls := findClass_of_methodNamed B.named
  have hlocks := B.notSynchronized
  subst hsz
  have hD := hDL.self (sz := s.heap.size)
  have hAlo := A_lo hDL hlo
  generalize hAe : va_A [(x0, .inr (6, (fX6 x1 (nI tz) (nI ta) na fn fb))), (aB k x1 240 fx)] s.heap.size = A at hD hAlo ⊢
  have hA : ∀ q : Nat, s.heap.size ≤ q → A q := fun q h => by rw [← hAe]; exact Or.inr h
  have hS : va_S A s.heap s.heap [] := va_S.rf
  have hl := lv_entry ([.ref x0]) (n := 1) (Nat.le_of_ble_eq_true rfl)
  rw [lg_entry_eq]
  generalize (lg_sl ([.ref x0]) ++ List.replicate (1 - (lg_sl ([.ref x0])).length) Slot.unset).toArray = ls at hl ⊢
  have hl : lv_has ls 1 [(0, .ref x0)] := hl
  refine lv_aload_n hx hb dX6_isAtEnd_0 rfl (lv_at hl 0 rfl) ?_
  refine rw_v (D := D) (wr := []) (va_runV (As := []) (rest := []) ⟨hx, hb, hml, hown, hts⟩ ((y_skip l D k st lo x0 x1 tz ta na fn fb fx (by omega) (by omega)) s.heap.size) (cwV 0 hts (gV tw_375 tw_376 tw_377 tw_80 tw_378) rfl rfl rfl (by decide +kernel) ⟨Nat.le_of_ble_eq_true rfl, Nat.le_of_ble_eq_true rfl⟩) (pV hS hAlo hlo hP hK (va_Dlo hD hAlo) hZ [0, 1] (by decide) rfl (ci := 6) (q := (RX6, TX6, 6)) (q0 := 0) rfl rfl) rfl rfl hl.1 rfl (lv_room (Nat.le_of_ble_eq_true rfl)) dX6_isAtEnd_1 ⟨Nat.le_of_ble_eq_true rfl, Nat.le_of_ble_eq_true rfl⟩) hS hA hP hD [0, 1] [] rfl rfl (by decide) (by decide) (fun u H locs hw_1 hP hD hS => ?_)
  obtain ⟨ta__1, rfl⟩ : ∃ z, z = u := ⟨_, rfl⟩
  replace hP : va_P D classes [(x0, .inr (6, (fX6 x1 (nI tz) (nI ta__1) na fn fb))), (aB k x1 240 fx)] H := hP
  replace hD : va_D A [(x0, .inr (6, (fX6 x1 (nI tz) (nI ta__1) na fn fb))), (aB k x1 240 fx)] := hD
  try dsimp only at hw_1
  refine lv_aload_n hx hb dX6_isAtEnd_4 rfl (lv_at hl 0 rfl) ?_
  refine va_get (D := D) (ci := 6) (v := .int (nI ta__1)) (C := RX6) (T := TX6) (N := 6) hx hb hts inX6 hown hK hP 0 rfl rfl 2 (by decide) (hts _ tw_113) (fun _ h9 => h9) rfl dX6_isAtEnd_5 ?_
  refine lv_aload_n hx hb dX6_isAtEnd_8 rfl (lv_at hl 0 rfl) ?_
  refine va_get (D := D) (ci := 6) (v := .int (nI tz)) (C := RX6) (T := TX6) (N := 6) hx hb hts inX6 hown hK hP 0 rfl rfl 1 (by decide) (hts _ tw_110) (fun _ h9 => h9) rfl dX6_isAtEnd_9 ?_
  refine lv_icmp_lt (tgt := 19) hx hb dX6_isAtEnd_12 (by decide) (fun c_2 => ?_) (fun c_2 => ?_)
  · have c_2 := (nI_ltI (a := ta__1) (b := tz) (by omega) (by omega)).mp c_2
    refine lv_iconst (v := 0) hx hb dX6_isAtEnd_19 (by decide) ?_
    have hP9 := hP.sub (ws' := [(x0, .inr (6, (fX6 x1 (nI tz) (nI ta__1) na fn fb))), (aB k x1 240 fx)]) [0, 1] rfl
    have hD9 := hD.sub (ws' := [(x0, .inr (6, (fX6 x1 (nI tz) (nI ta__1) na fn fb))), (aB k x1 240 fx)]) [0, 1] (by decide) rfl
    exact W.zret (v := 0) (ty := .boolean) hx hb hr rfl (fun t ht hW => ⟨⟨0, ta__1, rfl, ⟨.inr ⟨rfl, by omega⟩, hw_1.1, by omega, by omega⟩, by rw [ht]; exact hP9, hD9⟩, hS.F ht⟩) hS.2.2 dX6_isAtEnd_20
  · have c_2 : ¬ (ta__1 < tz) := fun h => c_2 ((nI_ltI (a := ta__1) (b := tz) (by omega) (by omega)).mpr h)
    refine lv_iconst (v := 1) hx hb dX6_isAtEnd_15 (by decide) ?_
    refine lv_goto (tgt := 20) hx hb dX6_isAtEnd_16 (by decide) ?_
    have hP9 := hP.sub (ws' := [(x0, .inr (6, (fX6 x1 (nI tz) (nI ta__1) na fn fb))), (aB k x1 240 fx)]) [0, 1] rfl
    have hD9 := hD.sub (ws' := [(x0, .inr (6, (fX6 x1 (nI tz) (nI ta__1) na fn fb))), (aB k x1 240 fx)]) [0, 1] (by decide) rfl
    exact W.zret (v := 1) (ty := .boolean) hx hb hr rfl (fun t ht hW => ⟨⟨1, ta__1, rfl, ⟨.inl ⟨rfl, by omega⟩, hw_1.1, by omega, by omega⟩, by rw [ht]; exact hP9, hD9⟩, hS.F ht⟩) hS.2.2 dX6_isAtEnd_20


theorem dX4_draw_0 : decode cX4_draw 0 = .ok (.aload_n 0, 1) := by decide +kernel
theorem dX4_draw_1 : decode cX4_draw 1 = .ok (.aload_n 0, 1) := by decide +kernel
theorem dX4_draw_2 : decode cX4_draw 2 = .ok (.getfield 28, 3) := by decide +kernel
theorem dX4_draw_5 : decode cX4_draw 5 = .ok (.i2l, 1) := by decide +kernel
theorem dX4_draw_6 : decode cX4_draw 6 = .ok (.ldc2_w 37, 3) := by decide +kernel
theorem dX4_draw_9 : decode cX4_draw 9 = .ok (.lmul, 1) := by decide +kernel
theorem dX4_draw_10 : decode cX4_draw 10 = .ok (.ldc2_w 39, 3) := by decide +kernel
theorem dX4_draw_13 : decode cX4_draw 13 = .ok (.ladd, 1) := by decide +kernel
theorem dX4_draw_14 : decode cX4_draw 14 = .ok (.ldc2_w 41, 3) := by decide +kernel
theorem dX4_draw_17 : decode cX4_draw 17 = .ok (.land, 1) := by decide +kernel
theorem dX4_draw_18 : decode cX4_draw 18 = .ok (.l2i, 1) := by decide +kernel
theorem dX4_draw_19 : decode cX4_draw 19 = .ok (.putfield 28, 3) := by decide +kernel
theorem dX4_draw_22 : decode cX4_draw 22 = .ok (.aload_n 0, 1) := by decide +kernel
theorem dX4_draw_23 : decode cX4_draw 23 = .ok (.getfield 28, 3) := by decide +kernel
theorem dX4_draw_26 : decode cX4_draw 26 = .ok (.ldc 43, 2) := by decide +kernel
theorem dX4_draw_28 : decode cX4_draw 28 = .ok (.idiv, 1) := by decide +kernel
theorem dX4_draw_29 : decode cX4_draw 29 = .ok (.bipush 100, 2) := by decide +kernel
theorem dX4_draw_31 : decode cX4_draw 31 = .ok (.irem, 1) := by decide +kernel
theorem dX4_draw_32 : decode cX4_draw 32 = .ok (.ireturn, 1) := by decide +kernel
set_option maxHeartbeats 4000000 in
set_option maxRecDepth 100000 in
theorem x_draw (l : Launch) (D : va_G) (k : Nat → ClassId) (st : Nat → Nat) (lo : Nat) (c0 : Nat) (c1 : Nat) (c2 : Nat) (cc : Nat) (rz : Nat) (ro : Int32) (sd : Int32)  : CWi l D k st lo yX4_draw cX4_draw 1 (some .int) ({ frames := 0, cells := 0, slots := 0, locals := 0 }) 0 0 [.ref c0] [(c0, .inr (4, [.ref c1, .ref c2, .int (nI cc), .int (nI rz), .int ro, .int sd]))] (fun (r : Int32) (sd_ : Int32) => True) (fun (sd_ : Int32) => [(c0, .inr (4, [.ref c1, .ref c2, .int (nI cc), .int (nI rz), .int ro, .int sd_]))]) := by
  intro sz
  refine Met.ofW (cc := cX4_draw) (maxL := 1) (ret := (some .int)) (by decide) rfl ?_
  intro p e s m args below meth c s₁ B hml hv
  obtain ⟨rfl, hsz, hlo, hP, hK, hDL, hZ⟩ := hv
  have hx := B.exec
  have hb := B.bytes
  have hr := B.returns
  have hts := WS_ts B.pre
  have hown : s.vm.findClass RX4 = some m.cls := findClass_of_methodNamed B.named
  have hlocks := B.notSynchronized
  subst hsz
  have hD := hDL.self (sz := s.heap.size)
  have hAlo := A_lo hDL hlo
  generalize hAe : va_A [(c0, .inr (4, [.ref c1, .ref c2, .int (nI cc), .int (nI rz), .int ro, .int sd]))] s.heap.size = A at hD hAlo ⊢
  have hA : ∀ q : Nat, s.heap.size ≤ q → A q := fun q h => by rw [← hAe]; exact Or.inr h
  have hS : va_S A s.heap s.heap [] := va_S.rf
  have hl := lv_entry ([.ref c0]) (n := 1) (Nat.le_of_ble_eq_true rfl)
  rw [lg_entry_eq]
  generalize (lg_sl ([.ref c0]) ++ List.replicate (1 - (lg_sl ([.ref c0])).length) Slot.unset).toArray = ls at hl ⊢
  have hl : lv_has ls 1 [(0, .ref c0)] := hl
  refine lv_aload_n hx hb dX4_draw_0 rfl (lv_at hl 0 rfl) ?_
  refine lv_aload_n hx hb dX4_draw_1 rfl (lv_at hl 0 rfl) ?_
  refine va_get (D := D) (ci := 4) (v := .int sd) (C := RX4) (T := TX4) (N := 6) hx hb hts inX4 hown hK hP 0 rfl rfl 5 (by decide) (hts _ tw_188) (fun _ h9 => h9) rfl dX4_draw_2 ?_
  refine lv_i2l (v := sd.toInt64) hx hb dX4_draw_5 rfl ?_
  refine lv_ldc2 hx hb hown (hts _ tw_936) dX4_draw_6 ?_
  refine lv_lmul hx hb dX4_draw_9 ?_
  refine lv_topl (fun x_1 ex_1 => ?_)
  refine lv_ldc2 hx hb hown (hts _ tw_937) dX4_draw_10 ?_
  refine lv_ladd hx hb dX4_draw_13 ?_
  refine lv_topl (fun x_2 ex_2 => ?_)
  refine lv_ldc2 hx hb hown (hts _ tw_938) dX4_draw_14 ?_
  refine lv_land hx hb dX4_draw_17 ?_
  refine lv_topl (fun x_3 ex_3 => ?_)
  refine lv_l2i hx hb dX4_draw_18 rfl ?_
  refine lv_topi (fun x_4 ex_4 => ?_)
  refine va_put (D := D) (ci := 4) (v := .int x_4) (ty := .int) (C := RX4) (T := TX4) (N := 6) hx hb hts inX4 tyX4 tyX4_ok nmX4 hown hK hP hD hS 0 rfl rfl 5 (by decide) (hts _ tw_188) (fun _ h9 => h9) rfl (by decide +kernel) rfl rfl (Nat.le_of_ble_eq_true rfl) dX4_draw_19 (fun H locs hP hD hS => ?_)
  replace hP : va_P D classes [(c0, .inr (4, [.ref c1, .ref c2, .int (nI cc), .int (nI rz), .int ro, .int x_4]))] H := hP
  replace hD : va_D A [(c0, .inr (4, [.ref c1, .ref c2, .int (nI cc), .int (nI rz), .int ro, .int x_4]))] := hD
  refine lv_aload_n hx hb dX4_draw_22 rfl (lv_at hl 0 rfl) ?_
  refine va_get (D := D) (ci := 4) (v := .int x_4) (C := RX4) (T := TX4) (N := 6) hx hb hts inX4 hown hK hP 0 rfl rfl 5 (by decide) (hts _ tw_188) (fun _ h9 => h9) rfl dX4_draw_23 ?_
  refine lv_ldc hx hb hown (hts _ tw_939) dX4_draw_26 ?_
  refine lv_idiv hx hb dX4_draw_28 (by decide) ?_
  refine lv_topi (fun x_5 ex_5 => ?_)
  refine lv_bipush (v := 100) hx hb dX4_draw_29 (by decide) ?_
  refine lv_irem hx hb dX4_draw_31 (by decide) ?_
  refine lv_topi (fun x_6 ex_6 => ?_)
  have hP9 := hP.sub (ws' := [(c0, .inr (4, [.ref c1, .ref c2, .int (nI cc), .int (nI rz), .int ro, .int x_4]))]) [0] rfl
  have hD9 := hD.sub (ws' := [(c0, .inr (4, [.ref c1, .ref c2, .int (nI cc), .int (nI rz), .int ro, .int x_4]))]) [0] (by decide) rfl
  exact W.iret (v := x_6) hx hb hr (fun t ht hW => ⟨⟨x_6, x_4, rfl, trivial, by rw [ht]; exact hP9, hD9⟩, hS.F ht⟩) hS.2.2 dX4_draw_32


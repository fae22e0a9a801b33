theorem dX8_feed_0 : decode cX8_feed 0 = .ok (.iload_n 1, 1) := by decide +kernel
theorem dX8_feed_1 : decode cX8_feed 1 = .ok (.i2l, 1) := by decide +kernel
theorem dX8_feed_2 : decode cX8_feed 2 = .ok (.lconst 1, 1) := by decide +kernel
theorem dX8_feed_3 : decode cX8_feed 3 = .ok (.ldc2_w 111, 3) := by decide +kernel
theorem dX8_feed_6 : decode cX8_feed 6 = .ok (.invokestatic 107, 3) := by decide +kernel
theorem dX8_feed_9 : decode cX8_feed 9 = .ok (.ifCond .ne 7, 3) := by decide +kernel
theorem dX8_feed_12 : decode cX8_feed 12 = .ok (.sipush (-1002), 3) := by decide +kernel
theorem dX8_feed_15 : decode cX8_feed 15 = .ok (.ireturn, 1) := by decide +kernel
theorem dX8_feed_16 : decode cX8_feed 16 = .ok (.aload_n 0, 1) := by decide +kernel
theorem dX8_feed_17 : decode cX8_feed 17 = .ok (.getfield 113, 3) := by decide +kernel
theorem dX8_feed_20 : decode cX8_feed 20 = .ok (.iload_n 1, 1) := by decide +kernel
theorem dX8_feed_21 : decode cX8_feed 21 = .ok (.iadd, 1) := by decide +kernel
theorem dX8_feed_22 : decode cX8_feed 22 = .ok (.sipush 240, 3) := by decide +kernel
theorem dX8_feed_25 : decode cX8_feed 25 = .ok (.if_icmp .le 7, 3) := by decide +kernel
theorem dX8_feed_32 : decode cX8_feed 32 = .ok (.iload_n 1, 1) := by decide +kernel
theorem dX8_feed_33 : decode cX8_feed 33 = .ok (.iconst 1, 1) := by decide +kernel
theorem dX8_feed_34 : decode cX8_feed 34 = .ok (.isub, 1) := by decide +kernel
theorem dX8_feed_35 : decode cX8_feed 35 = .ok (.istore 4, 2) := by decide +kernel
theorem dX8_feed_37 : decode cX8_feed 37 = .ok (.iload 4, 2) := by decide +kernel
theorem dX8_feed_39 : decode cX8_feed 39 = .ok (.ifCond .lt 40, 3) := by decide +kernel
theorem dX8_feed_42 : decode cX8_feed 42 = .ok (.aload_n 0, 1) := by decide +kernel
theorem dX8_feed_43 : decode cX8_feed 43 = .ok (.getfield 22, 3) := by decide +kernel
theorem dX8_feed_46 : decode cX8_feed 46 = .ok (.aload_n 0, 1) := by decide +kernel
theorem dX8_feed_47 : decode cX8_feed 47 = .ok (.getfield 113, 3) := by decide +kernel
theorem dX8_feed_50 : decode cX8_feed 50 = .ok (.lload_n 2, 1) := by decide +kernel
theorem dX8_feed_51 : decode cX8_feed 51 = .ok (.bipush 8, 2) := by decide +kernel
theorem dX8_feed_53 : decode cX8_feed 53 = .ok (.iload 4, 2) := by decide +kernel
theorem dX8_feed_55 : decode cX8_feed 55 = .ok (.imul, 1) := by decide +kernel
theorem dX8_feed_56 : decode cX8_feed 56 = .ok (.lshr, 1) := by decide +kernel
theorem dX8_feed_57 : decode cX8_feed 57 = .ok (.ldc2_w 116, 3) := by decide +kernel
theorem dX8_feed_60 : decode cX8_feed 60 = .ok (.land, 1) := by decide +kernel
theorem dX8_feed_61 : decode cX8_feed 61 = .ok (.l2i, 1) := by decide +kernel
theorem dX8_feed_62 : decode cX8_feed 62 = .ok (.iastore, 1) := by decide +kernel
theorem dX8_feed_63 : decode cX8_feed 63 = .ok (.aload_n 0, 1) := by decide +kernel
theorem dX8_feed_64 : decode cX8_feed 64 = .ok (.dup, 1) := by decide +kernel
theorem dX8_feed_65 : decode cX8_feed 65 = .ok (.getfield 113, 3) := by decide +kernel
theorem dX8_feed_68 : decode cX8_feed 68 = .ok (.iconst 1, 1) := by decide +kernel
theorem dX8_feed_69 : decode cX8_feed 69 = .ok (.iadd, 1) := by decide +kernel
theorem dX8_feed_70 : decode cX8_feed 70 = .ok (.putfield 113, 3) := by decide +kernel
theorem dX8_feed_73 : decode cX8_feed 73 = .ok (.iinc 4 (-1), 3) := by decide +kernel
theorem dX8_feed_76 : decode cX8_feed 76 = .ok (.goto (-39), 3) := by decide +kernel
theorem dX8_feed_79 : decode cX8_feed 79 = .ok (.aload_n 0, 1) := by decide +kernel
theorem dX8_feed_80 : decode cX8_feed 80 = .ok (.getfield 113, 3) := by decide +kernel
theorem dX8_feed_83 : decode cX8_feed 83 = .ok (.ireturn, 1) := by decide +kernel
set_option maxHeartbeats 4000000 in
set_option maxRecDepth 100000 in
theorem k_m_feed (l : Launch) (D : va_G) (k : Nat → ClassId) (st : Nat → Nat) (lo : Nat) (a : Nat → Nat) (p0 : Int32) (p1 : Int64)  : CWi l D k st lo yX8_feed cX8_feed 5 (some .int) ({ frames := 1, cells := 0, slots := 0, locals := 25 }) 0 0 [.ref (a 0), .int p0, .long p1] [((a 0), .inr (8, [.ref (a 1), .ref (a 2), .ref (a 3), .ref (a 4), .ref (a 5), .int 0, .int (-1), .int 0, .long 0, .int 0, .int 0, .int 0, .int 0, .ref (a 14), .ref (a 15), .ref (a 16), .int 0, .ref (a 18), .ref (a 19), .ref (a 20), .ref (a 21), .ref (a 22), .ref (a 23), .int 0, .ref (a 25), .ref (a 26), .ref (a 27), .ref (a 28), .ref (a 29), .ref (a 30), .int 0, .ref (a 32), .ref (a 33), .ref (a 34), .int 0, .ref (a 36), .ref (a 37), .int 0, .int 0, .ref (a 40), .ref (a 41), .int 0, .ref (a 43), .ref (a 44)])), ((a 5), .inl (k 1, 240, .inl (fun _ => 0)))] (fun (r : Int32) (_ : Unit) => (inB p0 1 8 → r = p0) ∧ (¬ (inB p0 1 8) → r = -1002)) (fun (_ : Unit) => []) := by
  intro sz
  refine Met.ofW (cc := cX8_feed) (maxL := 5) (ret := (some .int)) (by decide) rfl ?_
  intro p e s m args below meth c s₁ B hml hv
  obtain ⟨rfl, hsz, hlo, hP, hK, hDL, hZ⟩ := hv
  have hx := B.exec
  have hb := B.bytes
  have hr := B.returns
  have hts := WS_ts B.pre
  have hown : s.vm.findClass RX8 = some m.cls := findClass_of_methodNamed B.named
  have hlocks := B.notSynchronized
  subst hsz
  have hD := hDL.self (sz := s.heap.size)
  have hAlo := A_lo hDL hlo
  generalize hAe : va_A [((a 0), .inr (8, [.ref (a 1), .ref (a 2), .ref (a 3), .ref (a 4), .ref (a 5), .int 0, .int (-1), .int 0, .long 0, .int 0, .int 0, .int 0, .int 0, .ref (a 14), .ref (a 15), .ref (a 16), .int 0, .ref (a 18), .ref (a 19), .ref (a 20), .ref (a 21), .ref (a 22), .ref (a 23), .int 0, .ref (a 25), .ref (a 26), .ref (a 27), .ref (a 28), .ref (a 29), .ref (a 30), .int 0, .ref (a 32), .ref (a 33), .ref (a 34), .int 0, .ref (a 36), .ref (a 37), .int 0, .int 0, .ref (a 40), .ref (a 41), .int 0, .ref (a 43), .ref (a 44)])), ((a 5), .inl (k 1, 240, .inl (fun _ => 0)))] s.heap.size = A at hD hAlo ⊢
  have hA : ∀ q : Nat, s.heap.size ≤ q → A q := fun q h => by rw [← hAe]; exact Or.inr h
  have hS : va_S A s.heap s.heap [] := va_S.rf
  have hl := lv_entry ([.ref (a 0), .int p0, .long p1]) (n := 5) (Nat.le_of_ble_eq_true rfl)
  rw [lg_entry_eq]
  generalize (lg_sl ([.ref (a 0), .int p0, .long p1]) ++ List.replicate (5 - (lg_sl ([.ref (a 0), .int p0, .long p1])).length) Slot.unset).toArray = ls at hl ⊢
  have hl : lv_has ls 5 [(0, .ref (a 0)), (1, .int p0), (2, .long p1)] := hl
  refine lv_iload_n hx hb dX8_feed_0 rfl (lv_at hl 1 rfl) ?_
  refine lv_i2l (v := p0.toInt64) hx hb dX8_feed_1 rfl ?_
  refine lv_lconst (v := (1 : Int32).toInt64) hx hb dX8_feed_2 (by decide) ?_
  refine lv_ldc2 hx hb hown (hts _ tw_1110) dX8_feed_3 ?_
  refine lv_tl (y := ((8 : Int32).toInt64)) (by decide) ?_
  refine ro_i (D := D) (va_runS (As := [.long (p0.toInt64), .long ((1 : Int32).toInt64), .long ((8 : Int32).toInt64)]) (rest := []) ⟨hx, hb, hml, hown, hts⟩ ((k_in l D k st lo p0 (1 : Int32) (8 : Int32)) s.heap.size) (va_cwS 3 hts (gS tw_1111 tw_1112 tw_87 tw_1113) rfl rfl rfl (by decide +kernel) ⟨Nat.le_of_ble_eq_true rfl, Nat.le_of_ble_eq_true rfl⟩) (pS hS hAlo hlo hP hK (va_Dlo hD hAlo) hZ [] (by decide) rfl) rfl rfl hl.1 rfl (lv_room (Nat.le_of_ble_eq_true rfl)) dX8_feed_6 ⟨Nat.le_of_ble_eq_true rfl, Nat.le_of_ble_eq_true rfl⟩) hS hA hP (fun r_1 H locs hw_1 hP hS => ?_)
  try dsimp only at hw_1
  rcases hw_1 with ⟨rfl, hw_1⟩ | ⟨rfl, hw_1⟩
  · refine lv_if_ne (tgt := 16) hx hb dX8_feed_9 (by decide) (fun _ => ?_) (fun h => absurd h (by decide))
    rcases spl8 hw_1 with rfl | rfl | rfl | rfl | rfl | rfl | rfl | rfl
    · refine lv_aload_n hx hb dX8_feed_16 rfl (lv_at hl 0 rfl) ?_
      refine va_get (D := D) (ci := 8) (v := .int 0) (C := RX8) (T := TX8) (N := 44) hx hb hts inX8 hown hK hP 0 rfl rfl 5 (by decide) (hts _ tw_978) (fun _ h9 => h9) rfl dX8_feed_17 ?_
      refine lv_iload_n hx hb dX8_feed_20 rfl (lv_at hl 1 rfl) ?_
      refine lv_iadd hx hb dX8_feed_21 ?_
      refine lv_ti (y := 1) (by decide) ?_
      refine lv_sipush (v := 240) hx hb dX8_feed_22 (by decide) ?_
      refine lv_icmp_le (tgt := 32) hx hb dX8_feed_25 (by decide) (fun _ => ?_) (fun h => absurd (by decide) h)
      refine lv_iload_n hx hb dX8_feed_32 rfl (lv_at hl 1 rfl) ?_
      refine lv_iconst (v := 1) hx hb dX8_feed_33 (by decide) ?_
      refine lv_isub hx hb dX8_feed_34 ?_
      refine lv_ti (y := 0) (by decide) ?_
      refine lv_istore (lv' := [(4, .int 0), (0, .ref (a 0)), (1, .int 1), (2, .long p1)]) hx hb dX8_feed_35 hl (by decide) rfl (fun ls hl => ?_)
      refine lv_iload hx hb dX8_feed_37 (lv_at hl 0 rfl) ?_
      refine lv_if_lt (tgt := 79) hx hb dX8_feed_39 (by decide) (fun h => absurd h (by decide)) (fun _ => ?_)
      refine lv_aload_n hx hb dX8_feed_42 rfl (lv_at hl 1 rfl) ?_
      refine va_get (D := D) (ci := 8) (v := .ref (a 5)) (C := RX8) (T := TX8) (N := 44) hx hb hts inX8 hown hK hP 0 rfl rfl 4 (by decide) (hts _ tw_977) (fun _ h9 => h9) rfl dX8_feed_43 ?_
      refine lv_aload_n hx hb dX8_feed_46 rfl (lv_at hl 1 rfl) ?_
      refine va_get (D := D) (ci := 8) (v := .int 0) (C := RX8) (T := TX8) (N := 44) hx hb hts inX8 hown hK hP 0 rfl rfl 5 (by decide) (hts _ tw_978) (fun _ h9 => h9) rfl dX8_feed_47 ?_
      refine lv_lload_n hx hb dX8_feed_50 rfl (lv_at hl 3 rfl) ?_
      refine lv_bipush (v := 8) hx hb dX8_feed_51 (by decide) ?_
      refine lv_iload hx hb dX8_feed_53 (lv_at hl 0 rfl) ?_
      refine lv_imul hx hb dX8_feed_55 ?_
      refine lv_ti (y := 0) (by decide) ?_
      refine lv_lshr hx hb dX8_feed_56 rfl ?_
      refine lv_topl (fun x_2 ex_2 => ?_)
      refine lv_ldc2 hx hb hown (hts _ tw_1114) dX8_feed_57 ?_
      refine lv_tl (y := ((255 : Int32).toInt64)) (by decide) ?_
      refine lv_land hx hb dX8_feed_60 ?_
      refine lv_topl (fun x_3 ex_3 => ?_)
      refine lv_l2i hx hb dX8_feed_61 rfl ?_
      refine lv_topi (fun x_4 ex_4 => ?_)
      refine va_iast hx hb hK hP hD hS 1 1 rfl rfl (by unfold vp_in; decide) dX8_feed_62 (fun H locs hP hD hS => ?_)
      have hP : va_P D classes [((a 0), .inr (8, [.ref (a 1), .ref (a 2), .ref (a 3), .ref (a 4), .ref (a 5), .int 0, .int (-1), .int 0, .long 0, .int 0, .int 0, .int 0, .int 0, .ref (a 14), .ref (a 15), .ref (a 16), .int 0, .ref (a 18), .ref (a 19), .ref (a 20), .ref (a 21), .ref (a 22), .ref (a 23), .int 0, .ref (a 25), .ref (a 26), .ref (a 27), .ref (a 28), .ref (a 29), .ref (a 30), .int 0, .ref (a 32), .ref (a 33), .ref (a 34), .int 0, .ref (a 36), .ref (a 37), .int 0, .int 0, .ref (a 40), .ref (a 41), .int 0, .ref (a 43), .ref (a 44)])), ((a 5), .inl (k 1, 240, .inl (upd (fun _ => 0) (Int32.toNatClampNeg 0) x_4)))] H := hP
      have hD : va_D A [((a 0), .inr (8, [.ref (a 1), .ref (a 2), .ref (a 3), .ref (a 4), .ref (a 5), .int 0, .int (-1), .int 0, .long 0, .int 0, .int 0, .int 0, .int 0, .ref (a 14), .ref (a 15), .ref (a 16), .int 0, .ref (a 18), .ref (a 19), .ref (a 20), .ref (a 21), .ref (a 22), .ref (a 23), .int 0, .ref (a 25), .ref (a 26), .ref (a 27), .ref (a 28), .ref (a 29), .ref (a 30), .int 0, .ref (a 32), .ref (a 33), .ref (a 34), .int 0, .ref (a 36), .ref (a 37), .int 0, .int 0, .ref (a 40), .ref (a 41), .int 0, .ref (a 43), .ref (a 44)])), ((a 5), .inl (k 1, 240, .inl (upd (fun _ => 0) (Int32.toNatClampNeg 0) x_4)))] := hD
      generalize (upd (fun _ => 0) (Int32.toNatClampNeg 0) x_4) = f_5 at hP hD
      refine lv_aload_n hx hb dX8_feed_63 rfl (lv_at hl 1 rfl) ?_
      refine lv_dup hx hb dX8_feed_64 rfl ?_
      refine va_get (D := D) (ci := 8) (v := .int 0) (C := RX8) (T := TX8) (N := 44) hx hb hts inX8 hown hK hP 0 rfl rfl 5 (by decide) (hts _ tw_978) (fun _ h9 => h9) rfl dX8_feed_65 ?_
      refine lv_iconst (v := 1) hx hb dX8_feed_68 (by decide) ?_
      refine lv_iadd hx hb dX8_feed_69 ?_
      refine lv_ti (y := 1) (by decide) ?_
      refine va_put (D := D) (ci := 8) (v := .int 1) (ty := .int) (C := RX8) (T := TX8) (N := 44) hx hb hts inX8 tyX8 tyX8_ok nmX8 hown hK hP hD hS 0 rfl rfl 5 (by decide) (hts _ tw_978) (fun _ h9 => h9) rfl (by decide +kernel) rfl rfl (Nat.le_of_ble_eq_true rfl) dX8_feed_70 (fun H locs hP hD hS => ?_)
      have hP : va_P D classes [((a 0), .inr (8, [.ref (a 1), .ref (a 2), .ref (a 3), .ref (a 4), .ref (a 5), .int 1, .int (-1), .int 0, .long 0, .int 0, .int 0, .int 0, .int 0, .ref (a 14), .ref (a 15), .ref (a 16), .int 0, .ref (a 18), .ref (a 19), .ref (a 20), .ref (a 21), .ref (a 22), .ref (a 23), .int 0, .ref (a 25), .ref (a 26), .ref (a 27), .ref (a 28), .ref (a 29), .ref (a 30), .int 0, .ref (a 32), .ref (a 33), .ref (a 34), .int 0, .ref (a 36), .ref (a 37), .int 0, .int 0, .ref (a 40), .ref (a 41), .int 0, .ref (a 43), .ref (a 44)])), ((a 5), .inl (k 1, 240, .inl f_5))] H := hP
      have hD : va_D A [((a 0), .inr (8, [.ref (a 1), .ref (a 2), .ref (a 3), .ref (a 4), .ref (a 5), .int 1, .int (-1), .int 0, .long 0, .int 0, .int 0, .int 0, .int 0, .ref (a 14), .ref (a 15), .ref (a 16), .int 0, .ref (a 18), .ref (a 19), .ref (a 20), .ref (a 21), .ref (a 22), .ref (a 23), .int 0, .ref (a 25), .ref (a 26), .ref (a 27), .ref (a 28), .ref (a 29), .ref (a 30), .int 0, .ref (a 32), .ref (a 33), .ref (a 34), .int 0, .ref (a 36), .ref (a 37), .int 0, .int 0, .ref (a 40), .ref (a 41), .int 0, .ref (a 43), .ref (a 44)])), ((a 5), .inl (k 1, 240, .inl f_5))] := hD
      refine lv_iinc (v := (-1)) (lv' := [(4, .int (-1)), (0, .ref (a 0)), (1, .int 1), (2, .long p1)]) hx hb dX8_feed_73 hl (k := 0) rfl (by decide) (by decide) rfl (fun ls hl => ?_)
      refine lv_goto (tgt := 37) hx hb dX8_feed_76 (by decide) ?_
      refine lv_iload hx hb dX8_feed_37 (lv_at hl 0 rfl) ?_
      refine lv_if_lt (tgt := 79) hx hb dX8_feed_39 (by decide) (fun _ => ?_) (fun h => absurd (by decide) h)
      refine lv_aload_n hx hb dX8_feed_79 rfl (lv_at hl 1 rfl) ?_
      refine va_get (D := D) (ci := 8) (v := .int 1) (C := RX8) (T := TX8) (N := 44) hx hb hts inX8 hown hK hP 0 rfl rfl 5 (by decide) (hts _ tw_978) (fun _ h9 => h9) rfl dX8_feed_80 ?_
      have hP9 := hP.sub (ws' := []) [] rfl
      have hD9 := hD.sub (ws' := []) [] (by decide) rfl
      exact W.iret (v := 1) hx hb hr (fun t ht hW => ⟨⟨1, (), rfl, ⟨fun _ => rfl, fun h => absurd ⟨by decide, by decide⟩ h⟩, by rw [ht]; exact hP9, hD9⟩, hS.F ht⟩) hS.2.2 dX8_feed_83
    · refine lv_aload_n hx hb dX8_feed_16 rfl (lv_at hl 0 rfl) ?_
      refine va_get (D := D) (ci := 8) (v := .int 0) (C := RX8) (T := TX8) (N := 44) hx hb hts inX8 hown hK hP 0 rfl rfl 5 (by decide) (hts _ tw_978) (fun _ h9 => h9) rfl dX8_feed_17 ?_
      refine lv_iload_n hx hb dX8_feed_20 rfl (lv_at hl 1 rfl) ?_
      refine lv_iadd hx hb dX8_feed_21 ?_
      refine lv_ti (y := 2) (by decide) ?_
      refine lv_sipush (v := 240) hx hb dX8_feed_22 (by decide) ?_
      refine lv_icmp_le (tgt := 32) hx hb dX8_feed_25 (by decide) (fun _ => ?_) (fun h => absurd (by decide) h)
      refine lv_iload_n hx hb dX8_feed_32 rfl (lv_at hl 1 rfl) ?_
      refine lv_iconst (v := 1) hx hb dX8_feed_33 (by decide) ?_
      refine lv_isub hx hb dX8_feed_34 ?_
      refine lv_ti (y := 1) (by decide) ?_
      refine lv_istore (lv' := [(4, .int 1), (0, .ref (a 0)), (1, .int 2), (2, .long p1)]) hx hb dX8_feed_35 hl (by decide) rfl (fun ls hl => ?_)
      refine lv_iload hx hb dX8_feed_37 (lv_at hl 0 rfl) ?_
      refine lv_if_lt (tgt := 79) hx hb dX8_feed_39 (by decide) (fun h => absurd h (by decide)) (fun _ => ?_)
      refine lv_aload_n hx hb dX8_feed_42 rfl (lv_at hl 1 rfl) ?_
      refine va_get (D := D) (ci := 8) (v := .ref (a 5)) (C := RX8) (T := TX8) (N := 44) hx hb hts inX8 hown hK hP 0 rfl rfl 4 (by decide) (hts _ tw_977) (fun _ h9 => h9) rfl dX8_feed_43 ?_
      refine lv_aload_n hx hb dX8_feed_46 rfl (lv_at hl 1 rfl) ?_
      refine va_get (D := D) (ci := 8) (v := .int 0) (C := RX8) (T := TX8) (N := 44) hx hb hts inX8 hown hK hP 0 rfl rfl 5 (by decide) (hts _ tw_978) (fun _ h9 => h9) rfl dX8_feed_47 ?_
      refine lv_lload_n hx hb dX8_feed_50 rfl (lv_at hl 3 rfl) ?_
      refine lv_bipush (v := 8) hx hb dX8_feed_51 (by decide) ?_
      refine lv_iload hx hb dX8_feed_53 (lv_at hl 0 rfl) ?_
      refine lv_imul hx hb dX8_feed_55 ?_
      refine lv_ti (y := 8) (by decide) ?_
      refine lv_lshr hx hb dX8_feed_56 rfl ?_
      refine lv_topl (fun x_6 ex_6 => ?_)
      refine lv_ldc2 hx hb hown (hts _ tw_1114) dX8_feed_57 ?_
      refine lv_tl (y := ((255 : Int32).toInt64)) (by decide) ?_
      refine lv_land hx hb dX8_feed_60 ?_
      refine lv_topl (fun x_7 ex_7 => ?_)
      refine lv_l2i hx hb dX8_feed_61 rfl ?_
      refine lv_topi (fun x_8 ex_8 => ?_)
      refine va_iast hx hb hK hP hD hS 1 1 rfl rfl (by unfold vp_in; decide) dX8_feed_62 (fun H locs hP hD hS => ?_)
      have hP : va_P D classes [((a 0), .inr (8, [.ref (a 1), .ref (a 2), .ref (a 3), .ref (a 4), .ref (a 5), .int 0, .int (-1), .int 0, .long 0, .int 0, .int 0, .int 0, .int 0, .ref (a 14), .ref (a 15), .ref (a 16), .int 0, .ref (a 18), .ref (a 19), .ref (a 20), .ref (a 21), .ref (a 22), .ref (a 23), .int 0, .ref (a 25), .ref (a 26), .ref (a 27), .ref (a 28), .ref (a 29), .ref (a 30), .int 0, .ref (a 32), .ref (a 33), .ref (a 34), .int 0, .ref (a 36), .ref (a 37), .int 0, .int 0, .ref (a 40), .ref (a 41), .int 0, .ref (a 43), .ref (a 44)])), ((a 5), .inl (k 1, 240, .inl (upd (fun _ => 0) (Int32.toNatClampNeg 0) x_8)))] H := hP
      have hD : va_D A [((a 0), .inr (8, [.ref (a 1), .ref (a 2), .ref (a 3), .ref (a 4), .ref (a 5), .int 0, .int (-1), .int 0, .long 0, .int 0, .int 0, .int 0, .int 0, .ref (a 14), .ref (a 15), .ref (a 16), .int 0, .ref (a 18), .ref (a 19), .ref (a 20), .ref (a 21), .ref (a 22), .ref (a 23), .int 0, .ref (a 25), .ref (a 26), .ref (a 27), .ref (a 28), .ref (a 29), .ref (a 30), .int 0, .ref (a 32), .ref (a 33), .ref (a 34), .int 0, .ref (a 36), .ref (a 37), .int 0, .int 0, .ref (a 40), .ref (a 41), .int 0, .ref (a 43), .ref (a 44)])), ((a 5), .inl (k 1, 240, .inl (upd (fun _ => 0) (Int32.toNatClampNeg 0) x_8)))] := hD
      generalize (upd (fun _ => 0) (Int32.toNatClampNeg 0) x_8) = f_9 at hP hD
      refine lv_aload_n hx hb dX8_feed_63 rfl (lv_at hl 1 rfl) ?_
      refine lv_dup hx hb dX8_feed_64 rfl ?_
      refine va_get (D := D) (ci := 8) (v := .int 0) (C := RX8) (T := TX8) (N := 44) hx hb hts inX8 hown hK hP 0 rfl rfl 5 (by decide) (hts _ tw_978) (fun _ h9 => h9) rfl dX8_feed_65 ?_
      refine lv_iconst (v := 1) hx hb dX8_feed_68 (by decide) ?_
      refine lv_iadd hx hb dX8_feed_69 ?_
      refine lv_ti (y := 1) (by decide) ?_
      refine va_put (D := D) (ci := 8) (v := .int 1) (ty := .int) (C := RX8) (T := TX8) (N := 44) hx hb hts inX8 tyX8 tyX8_ok nmX8 hown hK hP hD hS 0 rfl rfl 5 (by decide) (hts _ tw_978) (fun _ h9 => h9) rfl (by decide +kernel) rfl rfl (Nat.le_of_ble_eq_true rfl) dX8_feed_70 (fun H locs hP hD hS => ?_)
      have hP : va_P D classes [((a 0), .inr (8, [.ref (a 1), .ref (a 2), .ref (a 3), .ref (a 4), .ref (a 5), .int 1, .int (-1), .int 0, .long 0, .int 0, .int 0, .int 0, .int 0, .ref (a 14), .ref (a 15), .ref (a 16), .int 0, .ref (a 18), .ref (a 19), .ref (a 20), .ref (a 21), .ref (a 22), .ref (a 23), .int 0, .ref (a 25), .ref (a 26), .ref (a 27), .ref (a 28), .ref (a 29), .ref (a 30), .int 0, .ref (a 32), .ref (a 33), .ref (a 34), .int 0, .ref (a 36), .ref (a 37), .int 0, .int 0, .ref (a 40), .ref (a 41), .int 0, .ref (a 43), .ref (a 44)])), ((a 5), .inl (k 1, 240, .inl f_9))] H := hP
      have hD : va_D A [((a 0), .inr (8, [.ref (a 1), .ref (a 2), .ref (a 3), .ref (a 4), .ref (a 5), .int 1, .int (-1), .int 0, .long 0, .int 0, .int 0, .int 0, .int 0, .ref (a 14), .ref (a 15), .ref (a 16), .int 0, .ref (a 18), .ref (a 19), .ref (a 20), .ref (a 21), .ref (a 22), .ref (a 23), .int 0, .ref (a 25), .ref (a 26), .ref (a 27), .ref (a 28), .ref (a 29), .ref (a 30), .int 0, .ref (a 32), .ref (a 33), .ref (a 34), .int 0, .ref (a 36), .ref (a 37), .int 0, .int 0, .ref (a 40), .ref (a 41), .int 0, .ref (a 43), .ref (a 44)])), ((a 5), .inl (k 1, 240, .inl f_9))] := hD
      refine lv_iinc (v := 0) (lv' := [(4, .int 0), (0, .ref (a 0)), (1, .int 2), (2, .long p1)]) hx hb dX8_feed_73 hl (k := 0) rfl (by decide) (by decide) rfl (fun ls hl => ?_)
      refine lv_goto (tgt := 37) hx hb dX8_feed_76 (by decide) ?_
      refine lv_iload hx hb dX8_feed_37 (lv_at hl 0 rfl) ?_
      refine lv_if_lt (tgt := 79) hx hb dX8_feed_39 (by decide) (fun h => absurd h (by decide)) (fun _ => ?_)
      refine lv_aload_n hx hb dX8_feed_42 rfl (lv_at hl 1 rfl) ?_
      refine va_get (D := D) (ci := 8) (v := .ref (a 5)) (C := RX8) (T := TX8) (N := 44) hx hb hts inX8 hown hK hP 0 rfl rfl 4 (by decide) (hts _ tw_977) (fun _ h9 => h9) rfl dX8_feed_43 ?_
      refine lv_aload_n hx hb dX8_feed_46 rfl (lv_at hl 1 rfl) ?_
      refine va_get (D := D) (ci := 8) (v := .int 1) (C := RX8) (T := TX8) (N := 44) hx hb hts inX8 hown hK hP 0 rfl rfl 5 (by decide) (hts _ tw_978) (fun _ h9 => h9) rfl dX8_feed_47 ?_
      refine lv_lload_n hx hb dX8_feed_50 rfl (lv_at hl 3 rfl) ?_
      refine lv_bipush (v := 8) hx hb dX8_feed_51 (by decide) ?_
      refine lv_iload hx hb dX8_feed_53 (lv_at hl 0 rfl) ?_
      refine lv_imul hx hb dX8_feed_55 ?_
      refine lv_ti (y := 0) (by decide) ?_
      refine lv_lshr hx hb dX8_feed_56 rfl ?_
      refine lv_topl (fun x_10 ex_10 => ?_)
      refine lv_ldc2 hx hb hown (hts _ tw_1114) dX8_feed_57 ?_
      refine lv_tl (y := ((255 : Int32).toInt64)) (by decide) ?_
      refine lv_land hx hb dX8_feed_60 ?_
      refine lv_topl (fun x_11 ex_11 => ?_)
      refine lv_l2i hx hb dX8_feed_61 rfl ?_
      refine lv_topi (fun x_12 ex_12 => ?_)
      refine va_iast hx hb hK hP hD hS 1 1 rfl rfl (by unfold vp_in; decide) dX8_feed_62 (fun H locs hP hD hS => ?_)
      have hP : va_P D classes [((a 0), .inr (8, [.ref (a 1), .ref (a 2), .ref (a 3), .ref (a 4), .ref (a 5), .int 1, .int (-1), .int 0, .long 0, .int 0, .int 0, .int 0, .int 0, .ref (a 14), .ref (a 15), .ref (a 16), .int 0, .ref (a 18), .ref (a 19), .ref (a 20), .ref (a 21), .ref (a 22), .ref (a 23), .int 0, .ref (a 25), .ref (a 26), .ref (a 27), .ref (a 28), .ref (a 29), .ref (a 30), .int 0, .ref (a 32), .ref (a 33), .ref (a 34), .int 0, .ref (a 36), .ref (a 37), .int 0, .int 0, .ref (a 40), .ref (a 41), .int 0, .ref (a 43), .ref (a 44)])), ((a 5), .inl (k 1, 240, .inl (upd f_9 (Int32.toNatClampNeg 1) x_12)))] H := hP
      have hD : va_D A [((a 0), .inr (8, [.ref (a 1), .ref (a 2), .ref (a 3), .ref (a 4), .ref (a 5), .int 1, .int (-1), .int 0, .long 0, .int 0, .int 0, .int 0, .int 0, .ref (a 14), .ref (a 15), .ref (a 16), .int 0, .ref (a 18), .ref (a 19), .ref (a 20), .ref (a 21), .ref (a 22), .ref (a 23), .int 0, .ref (a 25), .ref (a 26), .ref (a 27), .ref (a 28), .ref (a 29), .ref (a 30), .int 0, .ref (a 32), .ref (a 33), .ref (a 34), .int 0, .ref (a 36), .ref (a 37), .int 0, .int 0, .ref (a 40), .ref (a 41), .int 0, .ref (a 43), .ref (a 44)])), ((a 5), .inl (k 1, 240, .inl (upd f_9 (Int32.toNatClampNeg 1) x_12)))] := hD
      generalize (upd f_9 (Int32.toNatClampNeg 1) x_12) = f_13 at hP hD
      refine lv_aload_n hx hb dX8_feed_63 rfl (lv_at hl 1 rfl) ?_
      refine lv_dup hx hb dX8_feed_64 rfl ?_
      refine va_get (D := D) (ci := 8) (v := .int 1) (C := RX8) (T := TX8) (N := 44) hx hb hts inX8 hown hK hP 0 rfl rfl 5 (by decide) (hts _ tw_978) (fun _ h9 => h9) rfl dX8_feed_65 ?_
      refine lv_iconst (v := 1) hx hb dX8_feed_68 (by decide) ?_
      refine lv_iadd hx hb dX8_feed_69 ?_
      refine lv_ti (y := 2) (by decide) ?_
      refine va_put (D := D) (ci := 8) (v := .int 2) (ty := .int) (C := RX8) (T := TX8) (N := 44) hx hb hts inX8 tyX8 tyX8_ok nmX8 hown hK hP hD hS 0 rfl rfl 5 (by decide) (hts _ tw_978) (fun _ h9 => h9) rfl (by decide +kernel) rfl rfl (Nat.le_of_ble_eq_true rfl) dX8_feed_70 (fun H locs hP hD hS => ?_)
      have hP : va_P D classes [((a 0), .inr (8, [.ref (a 1), .ref (a 2), .ref (a 3), .ref (a 4), .ref (a 5), .int 2, .int (-1), .int 0, .long 0, .int 0, .int 0, .int 0, .int 0, .ref (a 14), .ref (a 15), .ref (a 16), .int 0, .ref (a 18), .ref (a 19), .ref (a 20), .ref (a 21), .ref (a 22), .ref (a 23), .int 0, .ref (a 25), .ref (a 26), .ref (a 27), .ref (a 28), .ref (a 29), .ref (a 30), .int 0, .ref (a 32), .ref (a 33), .ref (a 34), .int 0, .ref (a 36), .ref (a 37), .int 0, .int 0, .ref (a 40), .ref (a 41), .int 0, .ref (a 43), .ref (a 44)])), ((a 5), .inl (k 1, 240, .inl f_13))] H := hP
      have hD : va_D A [((a 0), .inr (8, [.ref (a 1), .ref (a 2), .ref (a 3), .ref (a 4), .ref (a 5), .int 2, .int (-1), .int 0, .long 0, .int 0, .int 0, .int 0, .int 0, .ref (a 14), .ref (a 15), .ref (a 16), .int 0, .ref (a 18), .ref (a 19), .ref (a 20), .ref (a 21), .ref (a 22), .ref (a 23), .int 0, .ref (a 25), .ref (a 26), .ref (a 27), .ref (a 28), .ref (a 29), .ref (a 30), .int 0, .ref (a 32), .ref (a 33), .ref (a 34), .int 0, .ref (a 36), .ref (a 37), .int 0, .int 0, .ref (a 40), .ref (a 41), .int 0, .ref (a 43), .ref (a 44)])), ((a 5), .inl (k 1, 240, .inl f_13))] := hD
      refine lv_iinc (v := (-1)) (lv' := [(4, .int (-1)), (0, .ref (a 0)), (1, .int 2), (2, .long p1)]) hx hb dX8_feed_73 hl (k := 0) rfl (by decide) (by decide) rfl (fun ls hl => ?_)
      refine lv_goto (tgt := 37) hx hb dX8_feed_76 (by decide) ?_
      refine lv_iload hx hb dX8_feed_37 (lv_at hl 0 rfl) ?_
      refine lv_if_lt (tgt := 79) hx hb dX8_feed_39 (by decide) (fun _ => ?_) (fun h => absurd (by decide) h)
      refine lv_aload_n hx hb dX8_feed_79 rfl (lv_at hl 1 rfl) ?_
      refine va_get (D := D) (ci := 8) (v := .int 2) (C := RX8) (T := TX8) (N := 44) hx hb hts inX8 hown hK hP 0 rfl rfl 5 (by decide) (hts _ tw_978) (fun _ h9 => h9) rfl dX8_feed_80 ?_
      have hP9 := hP.sub (ws' := []) [] rfl
      have hD9 := hD.sub (ws' := []) [] (by decide) rfl
      exact W.iret (v := 2) hx hb hr (fun t ht hW => ⟨⟨2, (), rfl, ⟨fun _ => rfl, fun h => absurd ⟨by decide, by decide⟩ h⟩, by rw [ht]; exact hP9, hD9⟩, hS.F ht⟩) hS.2.2 dX8_feed_83
    · refine lv_aload_n hx hb dX8_feed_16 rfl (lv_at hl 0 rfl) ?_
      refine va_get (D := D) (ci := 8) (v := .int 0) (C := RX8) (T := TX8) (N := 44) hx hb hts inX8 hown hK hP 0 rfl rfl 5 (by decide) (hts _ tw_978) (fun _ h9 => h9) rfl dX8_feed_17 ?_
      refine lv_iload_n hx hb dX8_feed_20 rfl (lv_at hl 1 rfl) ?_
      refine lv_iadd hx hb dX8_feed_21 ?_
      refine lv_ti (y := 3) (by decide) ?_
      refine lv_sipush (v := 240) hx hb dX8_feed_22 (by decide) ?_
      refine lv_icmp_le (tgt := 32) hx hb dX8_feed_25 (by decide) (fun _ => ?_) (fun h => absurd (by decide) h)
      refine lv_iload_n hx hb dX8_feed_32 rfl (lv_at hl 1 rfl) ?_
      refine lv_iconst (v := 1) hx hb dX8_feed_33 (by decide) ?_
      refine lv_isub hx hb dX8_feed_34 ?_
      refine lv_ti (y := 2) (by decide) ?_
      refine lv_istore (lv' := [(4, .int 2), (0, .ref (a 0)), (1, .int 3), (2, .long p1)]) hx hb dX8_feed_35 hl (by decide) rfl (fun ls hl => ?_)
      refine lv_iload hx hb dX8_feed_37 (lv_at hl 0 rfl) ?_
      refine lv_if_lt (tgt := 79) hx hb dX8_feed_39 (by decide) (fun h => absurd h (by decide)) (fun _ => ?_)
      refine lv_aload_n hx hb dX8_feed_42 rfl (lv_at hl 1 rfl) ?_
      refine va_get (D := D) (ci := 8) (v := .ref (a 5)) (C := RX8) (T := TX8) (N := 44) hx hb hts inX8 hown hK hP 0 rfl rfl 4 (by decide) (hts _ tw_977) (fun _ h9 => h9) rfl dX8_feed_43 ?_
      refine lv_aload_n hx hb dX8_feed_46 rfl (lv_at hl 1 rfl) ?_
      refine va_get (D := D) (ci := 8) (v := .int 0) (C := RX8) (T := TX8) (N := 44) hx hb hts inX8 hown hK hP 0 rfl rfl 5 (by decide) (hts _ tw_978) (fun _ h9 => h9) rfl dX8_feed_47 ?_
      refine lv_lload_n hx hb dX8_feed_50 rfl (lv_at hl 3 rfl) ?_
      refine lv_bipush (v := 8) hx hb dX8_feed_51 (by decide) ?_
      refine lv_iload hx hb dX8_feed_53 (lv_at hl 0 rfl) ?_
      refine lv_imul hx hb dX8_feed_55 ?_
      refine lv_ti (y := 16) (by decide) ?_
      refine lv_lshr hx hb dX8_feed_56 rfl ?_
      refine lv_topl (fun x_14 ex_14 => ?_)
      refine lv_ldc2 hx hb hown (hts _ tw_1114) dX8_feed_57 ?_
      refine lv_tl (y := ((255 : Int32).toInt64)) (by decide) ?_
      refine lv_land hx hb dX8_feed_60 ?_
      refine lv_topl (fun x_15 ex_15 => ?_)
      refine lv_l2i hx hb dX8_feed_61 rfl ?_
      refine lv_topi (fun x_16 ex_16 => ?_)
      refine va_iast hx hb hK hP hD hS 1 1 rfl rfl (by unfold vp_in; decide) dX8_feed_62 (fun H locs hP hD hS => ?_)
      have hP : va_P D classes [((a 0), .inr (8, [.ref (a 1), .ref (a 2), .ref (a 3), .ref (a 4), .ref (a 5), .int 0, .int (-1), .int 0, .long 0, .int 0, .int 0, .int 0, .int 0, .ref (a 14), .ref (a 15), .ref (a 16), .int 0, .ref (a 18), .ref (a 19), .ref (a 20), .ref (a 21), .ref (a 22), .ref (a 23), .int 0, .ref (a 25), .ref (a 26), .ref (a 27), .ref (a 28), .ref (a 29), .ref (a 30), .int 0, .ref (a 32), .ref (a 33), .ref (a 34), .int 0, .ref (a 36), .ref (a 37), .int 0, .int 0, .ref (a 40), .ref (a 41), .int 0, .ref (a 43), .ref (a 44)])), ((a 5), .inl (k 1, 240, .inl (upd (fun _ => 0) (Int32.toNatClampNeg 0) x_16)))] H := hP
      have hD : va_D A [((a 0), .inr (8, [.ref (a 1), .ref (a 2), .ref (a 3), .ref (a 4), .ref (a 5), .int 0, .int (-1), .int 0, .long 0, .int 0, .int 0, .int 0, .int 0, .ref (a 14), .ref (a 15), .ref (a 16), .int 0, .ref (a 18), .ref (a 19), .ref (a 20), .ref (a 21), .ref (a 22), .ref (a 23), .int 0, .ref (a 25), .ref (a 26), .ref (a 27), .ref (a 28), .ref (a 29), .ref (a 30), .int 0, .ref (a 32), .ref (a 33), .ref (a 34), .int 0, .ref (a 36), .ref (a 37), .int 0, .int 0, .ref (a 40), .ref (a 41), .int 0, .ref (a 43), .ref (a 44)])), ((a 5), .inl (k 1, 240, .inl (upd (fun _ => 0) (Int32.toNatClampNeg 0) x_16)))] := hD
      generalize (upd (fun _ => 0) (Int32.toNatClampNeg 0) x_16) = f_17 at hP hD
      refine lv_aload_n hx hb dX8_feed_63 rfl (lv_at hl 1 rfl) ?_
      refine lv_dup hx hb dX8_feed_64 rfl ?_
      refine va_get (D := D) (ci := 8) (v := .int 0) (C := RX8) (T := TX8) (N := 44) hx hb hts inX8 hown hK hP 0 rfl rfl 5 (by decide) (hts _ tw_978) (fun _ h9 => h9) rfl dX8_feed_65 ?_
      refine lv_iconst (v := 1) hx hb dX8_feed_68 (by decide) ?_
      refine lv_iadd hx hb dX8_feed_69 ?_
      refine lv_ti (y := 1) (by decide) ?_
      refine va_put (D := D) (ci := 8) (v := .int 1) (ty := .int) (C := RX8) (T := TX8) (N := 44) hx hb hts inX8 tyX8 tyX8_ok nmX8 hown hK hP hD hS 0 rfl rfl 5 (by decide) (hts _ tw_978) (fun _ h9 => h9) rfl (by decide +kernel) rfl rfl (Nat.le_of_ble_eq_true rfl) dX8_feed_70 (fun H locs hP hD hS => ?_)
      have hP : va_P D classes [((a 0), .inr (8, [.ref (a 1), .ref (a 2), .ref (a 3), .ref (a 4), .ref (a 5), .int 1, .int (-1), .int 0, .long 0, .int 0, .int 0, .int 0, .int 0, .ref (a 14), .ref (a 15), .ref (a 16), .int 0, .ref (a 18), .ref (a 19), .ref (a 20), .ref (a 21), .ref (a 22), .ref (a 23), .int 0, .ref (a 25), .ref (a 26), .ref (a 27), .ref (a 28), .ref (a 29), .ref (a 30), .int 0, .ref (a 32), .ref (a 33), .ref (a 34), .int 0, .ref (a 36), .ref (a 37), .int 0, .int 0, .ref (a 40), .ref (a 41), .int 0, .ref (a 43), .ref (a 44)])), ((a 5), .inl (k 1, 240, .inl f_17))] H := hP
      have hD : va_D A [((a 0), .inr (8, [.ref (a 1), .ref (a 2), .ref (a 3), .ref (a 4), .ref (a 5), .int 1, .int (-1), .int 0, .long 0, .int 0, .int 0, .int 0, .int 0, .ref (a 14), .ref (a 15), .ref (a 16), .int 0, .ref (a 18), .ref (a 19), .ref (a 20), .ref (a 21), .ref (a 22), .ref (a 23), .int 0, .ref (a 25), .ref (a 26), .ref (a 27), .ref (a 28), .ref (a 29), .ref (a 30), .int 0, .ref (a 32), .ref (a 33), .ref (a 34), .int 0, .ref (a 36), .ref (a 37), .int 0, .int 0, .ref (a 40), .ref (a 41), .int 0, .ref (a 43), .ref (a 44)])), ((a 5), .inl (k 1, 240, .inl f_17))] := hD
      refine lv_iinc (v := 1) (lv' := [(4, .int 1), (0, .ref (a 0)), (1, .int 3), (2, .long p1)]) hx hb dX8_feed_73 hl (k := 0) rfl (by decide) (by decide) rfl (fun ls hl => ?_)
      refine lv_goto (tgt := 37) hx hb dX8_feed_76 (by decide) ?_
      refine lv_iload hx hb dX8_feed_37 (lv_at hl 0 rfl) ?_
      refine lv_if_lt (tgt := 79) hx hb dX8_feed_39 (by decide) (fun h => absurd h (by decide)) (fun _ => ?_)
      refine lv_aload_n hx hb dX8_feed_42 rfl (lv_at hl 1 rfl) ?_
      refine va_get (D := D) (ci := 8) (v := .ref (a 5)) (C := RX8) (T := TX8) (N := 44) hx hb hts inX8 hown hK hP 0 rfl rfl 4 (by decide) (hts _ tw_977) (fun _ h9 => h9) rfl dX8_feed_43 ?_
      refine lv_aload_n hx hb dX8_feed_46 rfl (lv_at hl 1 rfl) ?_
      refine va_get (D := D) (ci := 8) (v := .int 1) (C := RX8) (T := TX8) (N := 44) hx hb hts inX8 hown hK hP 0 rfl rfl 5 (by decide) (hts _ tw_978) (fun _ h9 => h9) rfl dX8_feed_47 ?_
      refine lv_lload_n hx hb dX8_feed_50 rfl (lv_at hl 3 rfl) ?_
      refine lv_bipush (v := 8) hx hb dX8_feed_51 (by decide) ?_
      refine lv_iload hx hb dX8_feed_53 (lv_at hl 0 rfl) ?_
      refine lv_imul hx hb dX8_feed_55 ?_
      refine lv_ti (y := 8) (by decide) ?_
      refine lv_lshr hx hb dX8_feed_56 rfl ?_
      refine lv_topl (fun x_18 ex_18 => ?_)
      refine lv_ldc2 hx hb hown (hts _ tw_1114) dX8_feed_57 ?_
      refine lv_tl (y := ((255 : Int32).toInt64)) (by decide) ?_
      refine lv_land hx hb dX8_feed_60 ?_
      refine lv_topl (fun x_19 ex_19 => ?_)
      refine lv_l2i hx hb dX8_feed_61 rfl ?_
      refine lv_topi (fun x_20 ex_20 => ?_)
      refine va_iast hx hb hK hP hD hS 1 1 rfl rfl (by unfold vp_in; decide) dX8_feed_62 (fun H locs hP hD hS => ?_)
      have hP : va_P D classes [((a 0), .inr (8, [.ref (a 1), .ref (a 2), .ref (a 3), .ref (a 4), .ref (a 5), .int 1, .int (-1), .int 0, .long 0, .int 0, .int 0, .int 0, .int 0, .ref (a 14), .ref (a 15), .ref (a 16), .int 0, .ref (a 18), .ref (a 19), .ref (a 20), .ref (a 21), .ref (a 22), .ref (a 23), .int 0, .ref (a 25), .ref (a 26), .ref (a 27), .ref (a 28), .ref (a 29), .ref (a 30), .int 0, .ref (a 32), .ref (a 33), .ref (a 34), .int 0, .ref (a 36), .ref (a 37), .int 0, .int 0, .ref (a 40), .ref (a 41), .int 0, .ref (a 43), .ref (a 44)])), ((a 5), .inl (k 1, 240, .inl (upd f_17 (Int32.toNatClampNeg 1) x_20)))] H := hP
      have hD : va_D A [((a 0), .inr (8, [.ref (a 1), .ref (a 2), .ref (a 3), .ref (a 4), .ref (a 5), .int 1, .int (-1), .int 0, .long 0, .int 0, .int 0, .int 0, .int 0, .ref (a 14), .ref (a 15), .ref (a 16), .int 0, .ref (a 18), .ref (a 19), .ref (a 20), .ref (a 21), .ref (a 22), .ref (a 23), .int 0, .ref (a 25), .ref (a 26), .ref (a 27), .ref (a 28), .ref (a 29), .ref (a 30), .int 0, .ref (a 32), .ref (a 33), .ref (a 34), .int 0, .ref (a 36), .ref (a 37), .int 0, .int 0, .ref (a 40), .ref (a 41), .int 0, .ref (a 43), .ref (a 44)])), ((a 5), .inl (k 1, 240, .inl (upd f_17 (Int32.toNatClampNeg 1) x_20)))] := hD
      generalize (upd f_17 (Int32.toNatClampNeg 1) x_20) = f_21 at hP hD
      refine lv_aload_n hx hb dX8_feed_63 rfl (lv_at hl 1 rfl) ?_
      refine lv_dup hx hb dX8_feed_64 rfl ?_
      refine va_get (D := D) (ci := 8) (v := .int 1) (C := RX8) (T := TX8) (N := 44) hx hb hts inX8 hown hK hP 0 rfl rfl 5 (by decide) (hts _ tw_978) (fun _ h9 => h9) rfl dX8_feed_65 ?_
      refine lv_iconst (v := 1) hx hb dX8_feed_68 (by decide) ?_
      refine lv_iadd hx hb dX8_feed_69 ?_
      refine lv_ti (y := 2) (by decide) ?_
      refine va_put (D := D) (ci := 8) (v := .int 2) (ty := .int) (C := RX8) (T := TX8) (N := 44) hx hb hts inX8 tyX8 tyX8_ok nmX8 hown hK hP hD hS 0 rfl rfl 5 (by decide) (hts _ tw_978) (fun _ h9 => h9) rfl (by decide +kernel) rfl rfl (Nat.le_of_ble_eq_true rfl) dX8_feed_70 (fun H locs hP hD hS => ?_)
      have hP : va_P D classes [((a 0), .inr (8, [.ref (a 1), .ref (a 2), .ref (a 3), .ref (a 4), .ref (a 5), .int 2, .int (-1), .int 0, .long 0, .int 0, .int 0, .int 0, .int 0, .ref (a 14), .ref (a 15), .ref (a 16), .int 0, .ref (a 18), .ref (a 19), .ref (a 20), .ref (a 21), .ref (a 22), .ref (a 23), .int 0, .ref (a 25), .ref (a 26), .ref (a 27), .ref (a 28), .ref (a 29), .ref (a 30), .int 0, .ref (a 32), .ref (a 33), .ref (a 34), .int 0, .ref (a 36), .ref (a 37), .int 0, .int 0, .ref (a 40), .ref (a 41), .int 0, .ref (a 43), .ref (a 44)])), ((a 5), .inl (k 1, 240, .inl f_21))] H := hP
      have hD : va_D A [((a 0), .inr (8, [.ref (a 1), .ref (a 2), .ref (a 3), .ref (a 4), .ref (a 5), .int 2, .int (-1), .int 0, .long 0, .int 0, .int 0, .int 0, .int 0, .ref (a 14), .ref (a 15), .ref (a 16), .int 0, .ref (a 18), .ref (a 19), .ref (a 20), .ref (a 21), .ref (a 22), .ref (a 23), .int 0, .ref (a 25), .ref (a 26), .ref (a 27), .ref (a 28), .ref (a 29), .ref (a 30), .int 0, .ref (a 32), .ref (a 33), .ref (a 34), .int 0, .ref (a 36), .ref (a 37), .int 0, .int 0, .ref (a 40), .ref (a 41), .int 0, .ref (a 43), .ref (a 44)])), ((a 5), .inl (k 1, 240, .inl f_21))] := hD
      refine lv_iinc (v := 0) (lv' := [(4, .int 0), (0, .ref (a 0)), (1, .int 3), (2, .long p1)]) hx hb dX8_feed_73 hl (k := 0) rfl (by decide) (by decide) rfl (fun ls hl => ?_)
      refine lv_goto (tgt := 37) hx hb dX8_feed_76 (by decide) ?_
      refine lv_iload hx hb dX8_feed_37 (lv_at hl 0 rfl) ?_
      refine lv_if_lt (tgt := 79) hx hb dX8_feed_39 (by decide) (fun h => absurd h (by decide)) (fun _ => ?_)
      refine lv_aload_n hx hb dX8_feed_42 rfl (lv_at hl 1 rfl) ?_
      refine va_get (D := D) (ci := 8) (v := .ref (a 5)) (C := RX8) (T := TX8) (N := 44) hx hb hts inX8 hown hK hP 0 rfl rfl 4 (by decide) (hts _ tw_977) (fun _ h9 => h9) rfl dX8_feed_43 ?_
      refine lv_aload_n hx hb dX8_feed_46 rfl (lv_at hl 1 rfl) ?_
      refine va_get (D := D) (ci := 8) (v := .int 2) (C := RX8) (T := TX8) (N := 44) hx hb hts inX8 hown hK hP 0 rfl rfl 5 (by decide) (hts _ tw_978) (fun _ h9 => h9) rfl dX8_feed_47 ?_
      refine lv_lload_n hx hb dX8_feed_50 rfl (lv_at hl 3 rfl) ?_
      refine lv_bipush (v := 8) hx hb dX8_feed_51 (by decide) ?_
      refine lv_iload hx hb dX8_feed_53 (lv_at hl 0 rfl) ?_
      refine lv_imul hx hb dX8_feed_55 ?_
      refine lv_ti (y := 0) (by decide) ?_
      refine lv_lshr hx hb dX8_feed_56 rfl ?_
      refine lv_topl (fun x_22 ex_22 => ?_)
      refine lv_ldc2 hx hb hown (hts _ tw_1114) dX8_feed_57 ?_
      refine lv_tl (y := ((255 : Int32).toInt64)) (by decide) ?_
      refine lv_land hx hb dX8_feed_60 ?_
      refine lv_topl (fun x_23 ex_23 => ?_)
      refine lv_l2i hx hb dX8_feed_61 rfl ?_
      refine lv_topi (fun x_24 ex_24 => ?_)
      refine va_iast hx hb hK hP hD hS 1 1 rfl rfl (by unfold vp_in; decide) dX8_feed_62 (fun H locs hP hD hS => ?_)
      have hP : va_P D classes [((a 0), .inr (8, [.ref (a 1), .ref (a 2), .ref (a 3), .ref (a 4), .ref (a 5), .int 2, .int (-1), .int 0, .long 0, .int 0, .int 0, .int 0, .int 0, .ref (a 14), .ref (a 15), .ref (a 16), .int 0, .ref (a 18), .ref (a 19), .ref (a 20), .ref (a 21), .ref (a 22), .ref (a 23), .int 0, .ref (a 25), .ref (a 26), .ref (a 27), .ref (a 28), .ref (a 29), .ref (a 30), .int 0, .ref (a 32), .ref (a 33), .ref (a 34), .int 0, .ref (a 36), .ref (a 37), .int 0, .int 0, .ref (a 40), .ref (a 41), .int 0, .ref (a 43), .ref (a 44)])), ((a 5), .inl (k 1, 240, .inl (upd f_21 (Int32.toNatClampNeg 2) x_24)))] H := hP
      have hD : va_D A [((a 0), .inr (8, [.ref (a 1), .ref (a 2), .ref (a 3), .ref (a 4), .ref (a 5), .int 2, .int (-1), .int 0, .long 0, .int 0, .int 0, .int 0, .int 0, .ref (a 14), .ref (a 15), .ref (a 16), .int 0, .ref (a 18), .ref (a 19), .ref (a 20), .ref (a 21), .ref (a 22), .ref (a 23), .int 0, .ref (a 25), .ref (a 26), .ref (a 27), .ref (a 28), .ref (a 29), .ref (a 30), .int 0, .ref (a 32), .ref (a 33), .ref (a 34), .int 0, .ref (a 36), .ref (a 37), .int 0, .int 0, .ref (a 40), .ref (a 41), .int 0, .ref (a 43), .ref (a 44)])), ((a 5), .inl (k 1, 240, .inl (upd f_21 (Int32.toNatClampNeg 2) x_24)))] := hD
      generalize (upd f_21 (Int32.toNatClampNeg 2) x_24) = f_25 at hP hD
      refine lv_aload_n hx hb dX8_feed_63 rfl (lv_at hl 1 rfl) ?_
      refine lv_dup hx hb dX8_feed_64 rfl ?_
      refine va_get (D := D) (ci := 8) (v := .int 2) (C := RX8) (T := TX8) (N := 44) hx hb hts inX8 hown hK hP 0 rfl rfl 5 (by decide) (hts _ tw_978) (fun _ h9 => h9) rfl dX8_feed_65 ?_
      refine lv_iconst (v := 1) hx hb dX8_feed_68 (by decide) ?_
      refine lv_iadd hx hb dX8_feed_69 ?_
      refine lv_ti (y := 3) (by decide) ?_
      refine va_put (D := D) (ci := 8) (v := .int 3) (ty := .int) (C := RX8) (T := TX8) (N := 44) hx hb hts inX8 tyX8 tyX8_ok nmX8 hown hK hP hD hS 0 rfl rfl 5 (by decide) (hts _ tw_978) (fun _ h9 => h9) rfl (by decide +kernel) rfl rfl (Nat.le_of_ble_eq_true rfl) dX8_feed_70 (fun H locs hP hD hS => ?_)
      have hP : va_P D classes [((a 0), .inr (8, [.ref (a 1), .ref (a 2), .ref (a 3), .ref (a 4), .ref (a 5), .int 3, .int (-1), .int 0, .long 0, .int 0, .int 0, .int 0, .int 0, .ref (a 14), .ref (a 15), .ref (a 16), .int 0, .ref (a 18), .ref (a 19), .ref (a 20), .ref (a 21), .ref (a 22), .ref (a 23), .int 0, .ref (a 25), .ref (a 26), .ref (a 27), .ref (a 28), .ref (a 29), .ref (a 30), .int 0, .ref (a 32), .ref (a 33), .ref (a 34), .int 0, .ref (a 36), .ref (a 37), .int 0, .int 0, .ref (a 40), .ref (a 41), .int 0, .ref (a 43), .ref (a 44)])), ((a 5), .inl (k 1, 240, .inl f_25))] H := hP
      have hD : va_D A [((a 0), .inr (8, [.ref (a 1), .ref (a 2), .ref (a 3), .ref (a 4), .ref (a 5), .int 3, .int (-1), .int 0, .long 0, .int 0, .int 0, .int 0, .int 0, .ref (a 14), .ref (a 15), .ref (a 16), .int 0, .ref (a 18), .ref (a 19), .ref (a 20), .ref (a 21), .ref (a 22), .ref (a 23), .int 0, .ref (a 25), .ref (a 26), .ref (a 27), .ref (a 28), .ref (a 29), .ref (a 30), .int 0, .ref (a 32), .ref (a 33), .ref (a 34), .int 0, .ref (a 36), .ref (a 37), .int 0, .int 0, .ref (a 40), .ref (a 41), .int 0, .ref (a 43), .ref (a 44)])), ((a 5), .inl (k 1, 240, .inl f_25))] := hD
      refine lv_iinc (v := (-1)) (lv' := [(4, .int (-1)), (0, .ref (a 0)), (1, .int 3), (2, .long p1)]) hx hb dX8_feed_73 hl (k := 0) rfl (by decide) (by decide) rfl (fun ls hl => ?_)
      refine lv_goto (tgt := 37) hx hb dX8_feed_76 (by decide) ?_
      refine lv_iload hx hb dX8_feed_37 (lv_at hl 0 rfl) ?_
      refine lv_if_lt (tgt := 79) hx hb dX8_feed_39 (by decide) (fun _ => ?_) (fun h => absurd (by decide) h)
      refine lv_aload_n hx hb dX8_feed_79 rfl (lv_at hl 1 rfl) ?_
      refine va_get (D := D) (ci := 8) (v := .int 3) (C := RX8) (T := TX8) (N := 44) hx hb hts inX8 hown hK hP 0 rfl rfl 5 (by decide) (hts _ tw_978) (fun _ h9 => h9) rfl dX8_feed_80 ?_
      have hP9 := hP.sub (ws' := []) [] rfl
      have hD9 := hD.sub (ws' := []) [] (by decide) rfl
      exact W.iret (v := 3) hx hb hr (fun t ht hW => ⟨⟨3, (), rfl, ⟨fun _ => rfl, fun h => absurd ⟨by decide, by decide⟩ h⟩, by rw [ht]; exact hP9, hD9⟩, hS.F ht⟩) hS.2.2 dX8_feed_83
    · refine lv_aload_n hx hb dX8_feed_16 rfl (lv_at hl 0 rfl) ?_
      refine va_get (D := D) (ci := 8) (v := .int 0) (C := RX8) (T := TX8) (N := 44) hx hb hts inX8 hown hK hP 0 rfl rfl 5 (by decide) (hts _ tw_978) (fun _ h9 => h9) rfl dX8_feed_17 ?_
      refine lv_iload_n hx hb dX8_feed_20 rfl (lv_at hl 1 rfl) ?_
      refine lv_iadd hx hb dX8_feed_21 ?_
      refine lv_ti (y := 4) (by decide) ?_
      refine lv_sipush (v := 240) hx hb dX8_feed_22 (by decide) ?_
      refine lv_icmp_le (tgt := 32) hx hb dX8_feed_25 (by decide) (fun _ => ?_) (fun h => absurd (by decide) h)
      refine lv_iload_n hx hb dX8_feed_32 rfl (lv_at hl 1 rfl) ?_
      refine lv_iconst (v := 1) hx hb dX8_feed_33 (by decide) ?_
      refine lv_isub hx hb dX8_feed_34 ?_
      refine lv_ti (y := 3) (by decide) ?_
      refine lv_istore (lv' := [(4, .int 3), (0, .ref (a 0)), (1, .int 4), (2, .long p1)]) hx hb dX8_feed_35 hl (by decide) rfl (fun ls hl => ?_)
      refine lv_iload hx hb dX8_feed_37 (lv_at hl 0 rfl) ?_
      refine lv_if_lt (tgt := 79) hx hb dX8_feed_39 (by decide) (fun h => absurd h (by decide)) (fun _ => ?_)
      refine lv_aload_n hx hb dX8_feed_42 rfl (lv_at hl 1 rfl) ?_
      refine va_get (D := D) (ci := 8) (v := .ref (a 5)) (C := RX8) (T := TX8) (N := 44) hx hb hts inX8 hown hK hP 0 rfl rfl 4 (by decide) (hts _ tw_977) (fun _ h9 => h9) rfl dX8_feed_43 ?_
      refine lv_aload_n hx hb dX8_feed_46 rfl (lv_at hl 1 rfl) ?_
      refine va_get (D := D) (ci := 8) (v := .int 0) (C := RX8) (T := TX8) (N := 44) hx hb hts inX8 hown hK hP 0 rfl rfl 5 (by decide) (hts _ tw_978) (fun _ h9 => h9) rfl dX8_feed_47 ?_
      refine lv_lload_n hx hb dX8_feed_50 rfl (lv_at hl 3 rfl) ?_
      refine lv_bipush (v := 8) hx hb dX8_feed_51 (by decide) ?_
      refine lv_iload hx hb dX8_feed_53 (lv_at hl 0 rfl) ?_
      refine lv_imul hx hb dX8_feed_55 ?_
      refine lv_ti (y := 24) (by decide) ?_
      refine lv_lshr hx hb dX8_feed_56 rfl ?_
      refine lv_topl (fun x_26 ex_26 => ?_)
      refine lv_ldc2 hx hb hown (hts _ tw_1114) dX8_feed_57 ?_
      refine lv_tl (y := ((255 : Int32).toInt64)) (by decide) ?_
      refine lv_land hx hb dX8_feed_60 ?_
      refine lv_topl (fun x_27 ex_27 => ?_)
      refine lv_l2i hx hb dX8_feed_61 rfl ?_
      refine lv_topi (fun x_28 ex_28 => ?_)
      refine va_iast hx hb hK hP hD hS 1 1 rfl rfl (by unfold vp_in; decide) dX8_feed_62 (fun H locs hP hD hS => ?_)
      have hP : va_P D classes [((a 0), .inr (8, [.ref (a 1), .ref (a 2), .ref (a 3), .ref (a 4), .ref (a 5), .int 0, .int (-1), .int 0, .long 0, .int 0, .int 0, .int 0, .int 0, .ref (a 14), .ref (a 15), .ref (a 16), .int 0, .ref (a 18), .ref (a 19), .ref (a 20), .ref (a 21), .ref (a 22), .ref (a 23), .int 0, .ref (a 25), .ref (a 26), .ref (a 27), .ref (a 28), .ref (a 29), .ref (a 30), .int 0, .ref (a 32), .ref (a 33), .ref (a 34), .int 0, .ref (a 36), .ref (a 37), .int 0, .int 0, .ref (a 40), .ref (a 41), .int 0, .ref (a 43), .ref (a 44)])), ((a 5), .inl (k 1, 240, .inl (upd (fun _ => 0) (Int32.toNatClampNeg 0) x_28)))] H := hP
      have hD : va_D A [((a 0), .inr (8, [.ref (a 1), .ref (a 2), .ref (a 3), .ref (a 4), .ref (a 5), .int 0, .int (-1), .int 0, .long 0, .int 0, .int 0, .int 0, .int 0, .ref (a 14), .ref (a 15), .ref (a 16), .int 0, .ref (a 18), .ref (a 19), .ref (a 20), .ref (a 21), .ref (a 22), .ref (a 23), .int 0, .ref (a 25), .ref (a 26), .ref (a 27), .ref (a 28), .ref (a 29), .ref (a 30), .int 0, .ref (a 32), .ref (a 33), .ref (a 34), .int 0, .ref (a 36), .ref (a 37), .int 0, .int 0, .ref (a 40), .ref (a 41), .int 0, .ref (a 43), .ref (a 44)])), ((a 5), .inl (k 1, 240, .inl (upd (fun _ => 0) (Int32.toNatClampNeg 0) x_28)))] := hD
      generalize (upd (fun _ => 0) (Int32.toNatClampNeg 0) x_28) = f_29 at hP hD
      refine lv_aload_n hx hb dX8_feed_63 rfl (lv_at hl 1 rfl) ?_
      refine lv_dup hx hb dX8_feed_64 rfl ?_
      refine va_get (D := D) (ci := 8) (v := .int 0) (C := RX8) (T := TX8) (N := 44) hx hb hts inX8 hown hK hP 0 rfl rfl 5 (by decide) (hts _ tw_978) (fun _ h9 => h9) rfl dX8_feed_65 ?_
      refine lv_iconst (v := 1) hx hb dX8_feed_68 (by decide) ?_
      refine lv_iadd hx hb dX8_feed_69 ?_
      refine lv_ti (y := 1) (by decide) ?_
      refine va_put (D := D) (ci := 8) (v := .int 1) (ty := .int) (C := RX8) (T := TX8) (N := 44) hx hb hts inX8 tyX8 tyX8_ok nmX8 hown hK hP hD hS 0 rfl rfl 5 (by decide) (hts _ tw_978) (fun _ h9 => h9) rfl (by decide +kernel) rfl rfl (Nat.le_of_ble_eq_true rfl) dX8_feed_70 (fun H locs hP hD hS => ?_)
      have hP : va_P D classes [((a 0), .inr (8, [.ref (a 1), .ref (a 2), .ref (a 3), .ref (a 4), .ref (a 5), .int 1, .int (-1), .int 0, .long 0, .int 0, .int 0, .int 0, .int 0, .ref (a 14), .ref (a 15), .ref (a 16), .int 0, .ref (a 18), .ref (a 19), .ref (a 20), .ref (a 21), .ref (a 22), .ref (a 23), .int 0, .ref (a 25), .ref (a 26), .ref (a 27), .ref (a 28), .ref (a 29), .ref (a 30), .int 0, .ref (a 32), .ref (a 33), .ref (a 34), .int 0, .ref (a 36), .ref (a 37), .int 0, .int 0, .ref (a 40), .ref (a 41), .int 0, .ref (a 43), .ref (a 44)])), ((a 5), .inl (k 1, 240, .inl f_29))] H := hP
      have hD : va_D A [((a 0), .inr (8, [.ref (a 1), .ref (a 2), .ref (a 3), .ref (a 4), .ref (a 5), .int 1, .int (-1), .int 0, .long 0, .int 0, .int 0, .int 0, .int 0, .ref (a 14), .ref (a 15), .ref (a 16), .int 0, .ref (a 18), .ref (a 19), .ref (a 20), .ref (a 21), .ref (a 22), .ref (a 23), .int 0, .ref (a 25), .ref (a 26), .ref (a 27), .ref (a 28), .ref (a 29), .ref (a 30), .int 0, .ref (a 32), .ref (a 33), .ref (a 34), .int 0, .ref (a 36), .ref (a 37), .int 0, .int 0, .ref (a 40), .ref (a 41), .int 0, .ref (a 43), .ref (a 44)])), ((a 5), .inl (k 1, 240, .inl f_29))] := hD
      refine lv_iinc (v := 2) (lv' := [(4, .int 2), (0, .ref (a 0)), (1, .int 4), (2, .long p1)]) hx hb dX8_feed_73 hl (k := 0) rfl (by decide) (by decide) rfl (fun ls hl => ?_)
      refine lv_goto (tgt := 37) hx hb dX8_feed_76 (by decide) ?_
      refine lv_iload hx hb dX8_feed_37 (lv_at hl 0 rfl) ?_
      refine lv_if_lt (tgt := 79) hx hb dX8_feed_39 (by decide) (fun h => absurd h (by decide)) (fun _ => ?_)
      refine lv_aload_n hx hb dX8_feed_42 rfl (lv_at hl 1 rfl) ?_
      refine va_get (D := D) (ci := 8) (v := .ref (a 5)) (C := RX8) (T := TX8) (N := 44) hx hb hts inX8 hown hK hP 0 rfl rfl 4 (by decide) (hts _ tw_977) (fun _ h9 => h9) rfl dX8_feed_43 ?_
      refine lv_aload_n hx hb dX8_feed_46 rfl (lv_at hl 1 rfl) ?_
      refine va_get (D := D) (ci := 8) (v := .int 1) (C := RX8) (T := TX8) (N := 44) hx hb hts inX8 hown hK hP 0 rfl rfl 5 (by decide) (hts _ tw_978) (fun _ h9 => h9) rfl dX8_feed_47 ?_
      refine lv_lload_n hx hb dX8_feed_50 rfl (lv_at hl 3 rfl) ?_
      refine lv_bipush (v := 8) hx hb dX8_feed_51 (by decide) ?_
      refine lv_iload hx hb dX8_feed_53 (lv_at hl 0 rfl) ?_
      refine lv_imul hx hb dX8_feed_55 ?_
      refine lv_ti (y := 16) (by decide) ?_
      refine lv_lshr hx hb dX8_feed_56 rfl ?_
      refine lv_topl (fun x_30 ex_30 => ?_)
      refine lv_ldc2 hx hb hown (hts _ tw_1114) dX8_feed_57 ?_
      refine lv_tl (y := ((255 : Int32).toInt64)) (by decide) ?_
      refine lv_land hx hb dX8_feed_60 ?_
      refine lv_topl (fun x_31 ex_31 => ?_)
      refine lv_l2i hx hb dX8_feed_61 rfl ?_
      refine lv_topi (fun x_32 ex_32 => ?_)
      refine va_iast hx hb hK hP hD hS 1 1 rfl rfl (by unfold vp_in; decide) dX8_feed_62 (fun H locs hP hD hS => ?_)
      have hP : va_P D classes [((a 0), .inr (8, [.ref (a 1), .ref (a 2), .ref (a 3), .ref (a 4), .ref (a 5), .int 1, .int (-1), .int 0, .long 0, .int 0, .int 0, .int 0, .int 0, .ref (a 14), .ref (a 15), .ref (a 16), .int 0, .ref (a 18), .ref (a 19), .ref (a 20), .ref (a 21), .ref (a 22), .ref (a 23), .int 0, .ref (a 25), .ref (a 26), .ref (a 27), .ref (a 28), .ref (a 29), .ref (a 30), .int 0, .ref (a 32), .ref (a 33), .ref (a 34), .int 0, .ref (a 36), .ref (a 37), .int 0, .int 0, .ref (a 40), .ref (a 41), .int 0, .ref (a 43), .ref (a 44)])), ((a 5), .inl (k 1, 240, .inl (upd f_29 (Int32.toNatClampNeg 1) x_32)))] H := hP
      have hD : va_D A [((a 0), .inr (8, [.ref (a 1), .ref (a 2), .ref (a 3), .ref (a 4), .ref (a 5), .int 1, .int (-1), .int 0, .long 0, .int 0, .int 0, .int 0, .int 0, .ref (a 14), .ref (a 15), .ref (a 16), .int 0, .ref (a 18), .ref (a 19), .ref (a 20), .ref (a 21), .ref (a 22), .ref (a 23), .int 0, .ref (a 25), .ref (a 26), .ref (a 27), .ref (a 28), .ref (a 29), .ref (a 30), .int 0, .ref (a 32), .ref (a 33), .ref (a 34), .int 0, .ref (a 36), .ref (a 37), .int 0, .int 0, .ref (a 40), .ref (a 41), .int 0, .ref (a 43), .ref (a 44)])), ((a 5), .inl (k 1, 240, .inl (upd f_29 (Int32.toNatClampNeg 1) x_32)))] := hD
      generalize (upd f_29 (Int32.toNatClampNeg 1) x_32) = f_33 at hP hD
      refine lv_aload_n hx hb dX8_feed_63 rfl (lv_at hl 1 rfl) ?_
      refine lv_dup hx hb dX8_feed_64 rfl ?_
      refine va_get (D := D) (ci := 8) (v := .int 1) (C := RX8) (T := TX8) (N := 44) hx hb hts inX8 hown hK hP 0 rfl rfl 5 (by decide) (hts _ tw_978) (fun _ h9 => h9) rfl dX8_feed_65 ?_
      refine lv_iconst (v := 1) hx hb dX8_feed_68 (by decide) ?_
      refine lv_iadd hx hb dX8_feed_69 ?_
      refine lv_ti (y := 2) (by decide) ?_
      refine va_put (D := D) (ci := 8) (v := .int 2) (ty := .int) (C := RX8) (T := TX8) (N := 44) hx hb hts inX8 tyX8 tyX8_ok nmX8 hown hK hP hD hS 0 rfl rfl 5 (by decide) (hts _ tw_978) (fun _ h9 => h9) rfl (by decide +kernel) rfl rfl (Nat.le_of_ble_eq_true rfl) dX8_feed_70 (fun H locs hP hD hS => ?_)
      have hP : va_P D classes [((a 0), .inr (8, [.ref (a 1), .ref (a 2), .ref (a 3), .ref (a 4), .ref (a 5), .int 2, .int (-1), .int 0, .long 0, .int 0, .int 0, .int 0, .int 0, .ref (a 14), .ref (a 15), .ref (a 16), .int 0, .ref (a 18), .ref (a 19), .ref (a 20), .ref (a 21), .ref (a 22), .ref (a 23), .int 0, .ref (a 25), .ref (a 26), .ref (a 27), .ref (a 28), .ref (a 29), .ref (a 30), .int 0, .ref (a 32), .ref (a 33), .ref (a 34), .int 0, .ref (a 36), .ref (a 37), .int 0, .int 0, .ref (a 40), .ref (a 41), .int 0, .ref (a 43), .ref (a 44)])), ((a 5), .inl (k 1, 240, .inl f_33))] H := hP
      have hD : va_D A [((a 0), .inr (8, [.ref (a 1), .ref (a 2), .ref (a 3), .ref (a 4), .ref (a 5), .int 2, .int (-1), .int 0, .long 0, .int 0, .int 0, .int 0, .int 0, .ref (a 14), .ref (a 15), .ref (a 16), .int 0, .ref (a 18), .ref (a 19), .ref (a 20), .ref (a 21), .ref (a 22), .ref (a 23), .int 0, .ref (a 25), .ref (a 26), .ref (a 27), .ref (a 28), .ref (a 29), .ref (a 30), .int 0, .ref (a 32), .ref (a 33), .ref (a 34), .int 0, .ref (a 36), .ref (a 37), .int 0, .int 0, .ref (a 40), .ref (a 41), .int 0, .ref (a 43), .ref (a 44)])), ((a 5), .inl (k 1, 240, .inl f_33))] := hD
      refine lv_iinc (v := 1) (lv' := [(4, .int 1), (0, .ref (a 0)), (1, .int 4), (2, .long p1)]) hx hb dX8_feed_73 hl (k := 0) rfl (by decide) (by decide) rfl (fun ls hl => ?_)
      refine lv_goto (tgt := 37) hx hb dX8_feed_76 (by decide) ?_
      refine lv_iload hx hb dX8_feed_37 (lv_at hl 0 rfl) ?_
      refine lv_if_lt (tgt := 79) hx hb dX8_feed_39 (by decide) (fun h => absurd h (by decide)) (fun _ => ?_)
      refine lv_aload_n hx hb dX8_feed_42 rfl (lv_at hl 1 rfl) ?_
      refine va_get (D := D) (ci := 8) (v := .ref (a 5)) (C := RX8) (T := TX8) (N := 44) hx hb hts inX8 hown hK hP 0 rfl rfl 4 (by decide) (hts _ tw_977) (fun _ h9 => h9) rfl dX8_feed_43 ?_
      refine lv_aload_n hx hb dX8_feed_46 rfl (lv_at hl 1 rfl) ?_
      refine va_get (D := D) (ci := 8) (v := .int 2) (C := RX8) (T := TX8) (N := 44) hx hb hts inX8 hown hK hP 0 rfl rfl 5 (by decide) (hts _ tw_978) (fun _ h9 => h9) rfl dX8_feed_47 ?_
      refine lv_lload_n hx hb dX8_feed_50 rfl (lv_at hl 3 rfl) ?_
      refine lv_bipush (v := 8) hx hb dX8_feed_51 (by decide) ?_
      refine lv_iload hx hb dX8_feed_53 (lv_at hl 0 rfl) ?_
      refine lv_imul hx hb dX8_feed_55 ?_
      refine lv_ti (y := 8) (by decide) ?_
      refine lv_lshr hx hb dX8_feed_56 rfl ?_
      refine lv_topl (fun x_34 ex_34 => ?_)
      refine lv_ldc2 hx hb hown (hts _ tw_1114) dX8_feed_57 ?_
      refine lv_tl (y := ((255 : Int32).toInt64)) (by decide) ?_
      refine lv_land hx hb dX8_feed_60 ?_
      refine lv_topl (fun x_35 ex_35 => ?_)
      refine lv_l2i hx hb dX8_feed_61 rfl ?_
      refine lv_topi (fun x_36 ex_36 => ?_)
      refine va_iast hx hb hK hP hD hS 1 1 rfl rfl (by unfold vp_in; decide) dX8_feed_62 (fun H locs hP hD hS => ?_)
      have hP : va_P D classes [((a 0), .inr (8, [.ref (a 1), .ref (a 2), .ref (a 3), .ref (a 4), .ref (a 5), .int 2, .int (-1), .int 0, .long 0, .int 0, .int 0, .int 0, .int 0, .ref (a 14), .ref (a 15), .ref (a 16), .int 0, .ref (a 18), .ref (a 19), .ref (a 20), .ref (a 21), .ref (a 22), .ref (a 23), .int 0, .ref (a 25), .ref (a 26), .ref (a 27), .ref (a 28), .ref (a 29), .ref (a 30), .int 0, .ref (a 32), .ref (a 33), .ref (a 34), .int 0, .ref (a 36), .ref (a 37), .int 0, .int 0, .ref (a 40), .ref (a 41), .int 0, .ref (a 43), .ref (a 44)])), ((a 5), .inl (k 1, 240, .inl (upd f_33 (Int32.toNatClampNeg 2) x_36)))] H := hP
      have hD : va_D A [((a 0), .inr (8, [.ref (a 1), .ref (a 2), .ref (a 3), .ref (a 4), .ref (a 5), .int 2, .int (-1), .int 0, .long 0, .int 0, .int 0, .int 0, .int 0, .ref (a 14), .ref (a 15), .ref (a 16), .int 0, .ref (a 18), .ref (a 19), .ref (a 20), .ref (a 21), .ref (a 22), .ref (a 23), .int 0, .ref (a 25), .ref (a 26), .ref (a 27), .ref (a 28), .ref (a 29), .ref (a 30), .int 0, .ref (a 32), .ref (a 33), .ref (a 34), .int 0, .ref (a 36), .ref (a 37), .int 0, .int 0, .ref (a 40), .ref (a 41), .int 0, .ref (a 43), .ref (a 44)])), ((a 5), .inl (k 1, 240, .inl (upd f_33 (Int32.toNatClampNeg 2) x_36)))] := hD
      generalize (upd f_33 (Int32.toNatClampNeg 2) x_36) = f_37 at hP hD
      refine lv_aload_n hx hb dX8_feed_63 rfl (lv_at hl 1 rfl) ?_
      refine lv_dup hx hb dX8_feed_64 rfl ?_
      refine va_get (D := D) (ci := 8) (v := .int 2) (C := RX8) (T := TX8) (N := 44) hx hb hts inX8 hown hK hP 0 rfl rfl 5 (by decide) (hts _ tw_978) (fun _ h9 => h9) rfl dX8_feed_65 ?_
      refine lv_iconst (v := 1) hx hb dX8_feed_68 (by decide) ?_
      refine lv_iadd hx hb dX8_feed_69 ?_
      refine lv_ti (y := 3) (by decide) ?_
      refine va_put (D := D) (ci := 8) (v := .int 3) (ty := .int) (C := RX8) (T := TX8) (N := 44) hx hb hts inX8 tyX8 tyX8_ok nmX8 hown hK hP hD hS 0 rfl rfl 5 (by decide) (hts _ tw_978) (fun _ h9 => h9) rfl (by decide +kernel) rfl rfl (Nat.le_of_ble_eq_true rfl) dX8_feed_70 (fun H locs hP hD hS => ?_)
      have hP : va_P D classes [((a 0), .inr (8, [.ref (a 1), .ref (a 2), .ref (a 3), .ref (a 4), .ref (a 5), .int 3, .int (-1), .int 0, .long 0, .int 0, .int 0, .int 0, .int 0, .ref (a 14), .ref (a 15), .ref (a 16), .int 0, .ref (a 18), .ref (a 19), .ref (a 20), .ref (a 21), .ref (a 22), .ref (a 23), .int 0, .ref (a 25), .ref (a 26), .ref (a 27), .ref (a 28), .ref (a 29), .ref (a 30), .int 0, .ref (a 32), .ref (a 33), .ref (a 34), .int 0, .ref (a 36), .ref (a 37), .int 0, .int 0, .ref (a 40), .ref (a 41), .int 0, .ref (a 43), .ref (a 44)])), ((a 5), .inl (k 1, 240, .inl f_37))] H := hP
      have hD : va_D A [((a 0), .inr (8, [.ref (a 1), .ref (a 2), .ref (a 3), .ref (a 4), .ref (a 5), .int 3, .int (-1), .int 0, .long 0, .int 0, .int 0, .int 0, .int 0, .ref (a 14), .ref (a 15), .ref (a 16), .int 0, .ref (a 18), .ref (a 19), .ref (a 20), .ref (a 21), .ref (a 22), .ref (a 23), .int 0, .ref (a 25), .ref (a 26), .ref (a 27), .ref (a 28), .ref (a 29), .ref (a 30), .int 0, .ref (a 32), .ref (a 33), .ref (a 34), .int 0, .ref (a 36), .ref (a 37), .int 0, .int 0, .ref (a 40), .ref (a 41), .int 0, .ref (a 43), .ref (a 44)])), ((a 5), .inl (k 1, 240, .inl f_37))] := hD
      refine lv_iinc (v := 0) (lv' := [(4, .int 0), (0, .ref (a 0)), (1, .int 4), (2, .long p1)]) hx hb dX8_feed_73 hl (k := 0) rfl (by decide) (by decide) rfl (fun ls hl => ?_)
      refine lv_goto (tgt := 37) hx hb dX8_feed_76 (by decide) ?_
      refine lv_iload hx hb dX8_feed_37 (lv_at hl 0 rfl) ?_
      refine lv_if_lt (tgt := 79) hx hb dX8_feed_39 (by decide) (fun h => absurd h (by decide)) (fun _ => ?_)
      refine lv_aload_n hx hb dX8_feed_42 rfl (lv_at hl 1 rfl) ?_
      refine va_get (D := D) (ci := 8) (v := .ref (a 5)) (C := RX8) (T := TX8) (N := 44) hx hb hts inX8 hown hK hP 0 rfl rfl 4 (by decide) (hts _ tw_977) (fun _ h9 => h9) rfl dX8_feed_43 ?_
      refine lv_aload_n hx hb dX8_feed_46 rfl (lv_at hl 1 rfl) ?_
      refine va_get (D := D) (ci := 8) (v := .int 3) (C := RX8) (T := TX8) (N := 44) hx hb hts inX8 hown hK hP 0 rfl rfl 5 (by decide) (hts _ tw_978) (fun _ h9 => h9) rfl dX8_feed_47 ?_
      refine lv_lload_n hx hb dX8_feed_50 rfl (lv_at hl 3 rfl) ?_
      refine lv_bipush (v := 8) hx hb dX8_feed_51 (by decide) ?_
      refine lv_iload hx hb dX8_feed_53 (lv_at hl 0 rfl) ?_
      refine lv_imul hx hb dX8_feed_55 ?_
      refine lv_ti (y := 0) (by decide) ?_
      refine lv_lshr hx hb dX8_feed_56 rfl ?_
      refine lv_topl (fun x_38 ex_38 => ?_)
      refine lv_ldc2 hx hb hown (hts _ tw_1114) dX8_feed_57 ?_
      refine lv_tl (y := ((255 : Int32).toInt64)) (by decide) ?_
      refine lv_land hx hb dX8_feed_60 ?_
      refine lv_topl (fun x_39 ex_39 => ?_)
      refine lv_l2i hx hb dX8_feed_61 rfl ?_
      refine lv_topi (fun x_40 ex_40 => ?_)
      refine va_iast hx hb hK hP hD hS 1 1 rfl rfl (by unfold vp_in; decide) dX8_feed_62 (fun H locs hP hD hS => ?_)
      have hP : va_P D classes [((a 0), .inr (8, [.ref (a 1), .ref (a 2), .ref (a 3), .ref (a 4), .ref (a 5), .int 3, .int (-1), .int 0, .long 0, .int 0, .int 0, .int 0, .int 0, .ref (a 14), .ref (a 15), .ref (a 16), .int 0, .ref (a 18), .ref (a 19), .ref (a 20), .ref (a 21), .ref (a 22), .ref (a 23), .int 0, .ref (a 25), .ref (a 26), .ref (a 27), .ref (a 28), .ref (a 29), .ref (a 30), .int 0, .ref (a 32), .ref (a 33), .ref (a 34), .int 0, .ref (a 36), .ref (a 37), .int 0, .int 0, .ref (a 40), .ref (a 41), .int 0, .ref (a 43), .ref (a 44)])), ((a 5), .inl (k 1, 240, .inl (upd f_37 (Int32.toNatClampNeg 3) x_40)))] H := hP
      have hD : va_D A [((a 0), .inr (8, [.ref (a 1), .ref (a 2), .ref (a 3), .ref (a 4), .ref (a 5), .int 3, .int (-1), .int 0, .long 0, .int 0, .int 0, .int 0, .int 0, .ref (a 14), .ref (a 15), .ref (a 16), .int 0, .ref (a 18), .ref (a 19), .ref (a 20), .ref (a 21), .ref (a 22), .ref (a 23), .int 0, .ref (a 25), .ref (a 26), .ref (a 27), .ref (a 28), .ref (a 29), .ref (a 30), .int 0, .ref (a 32), .ref (a 33), .ref (a 34), .int 0, .ref (a 36), .ref (a 37), .int 0, .int 0, .ref (a 40), .ref (a 41), .int 0, .ref (a 43), .ref (a 44)])), ((a 5), .inl (k 1, 240, .inl (upd f_37 (Int32.toNatClampNeg 3) x_40)))] := hD
      generalize (upd f_37 (Int32.toNatClampNeg 3) x_40) = f_41 at hP hD
      refine lv_aload_n hx hb dX8_feed_63 rfl (lv_at hl 1 rfl) ?_
      refine lv_dup hx hb dX8_feed_64 rfl ?_
      refine va_get (D := D) (ci := 8) (v := .int 3) (C := RX8) (T := TX8) (N := 44) hx hb hts inX8 hown hK hP 0 rfl rfl 5 (by decide) (hts _ tw_978) (fun _ h9 => h9) rfl dX8_feed_65 ?_
      refine lv_iconst (v := 1) hx hb dX8_feed_68 (by decide) ?_
      refine lv_iadd hx hb dX8_feed_69 ?_
      refine lv_ti (y := 4) (by decide) ?_
      refine va_put (D := D) (ci := 8) (v := .int 4) (ty := .int) (C := RX8) (T := TX8) (N := 44) hx hb hts inX8 tyX8 tyX8_ok nmX8 hown hK hP hD hS 0 rfl rfl 5 (by decide) (hts _ tw_978) (fun _ h9 => h9) rfl (by decide +kernel) rfl rfl (Nat.le_of_ble_eq_true rfl) dX8_feed_70 (fun H locs hP hD hS => ?_)
      have hP : va_P D classes [((a 0), .inr (8, [.ref (a 1), .ref (a 2), .ref (a 3), .ref (a 4), .ref (a 5), .int 4, .int (-1), .int 0, .long 0, .int 0, .int 0, .int 0, .int 0, .ref (a 14), .ref (a 15), .ref (a 16), .int 0, .ref (a 18), .ref (a 19), .ref (a 20), .ref (a 21), .ref (a 22), .ref (a 23), .int 0, .ref (a 25), .ref (a 26), .ref (a 27), .ref (a 28), .ref (a 29), .ref (a 30), .int 0, .ref (a 32), .ref (a 33), .ref (a 34), .int 0, .ref (a 36), .ref (a 37), .int 0, .int 0, .ref (a 40), .ref (a 41), .int 0, .ref (a 43), .ref (a 44)])), ((a 5), .inl (k 1, 240, .inl f_41))] H := hP
      have hD : va_D A [((a 0), .inr (8, [.ref (a 1), .ref (a 2), .ref (a 3), .ref (a 4), .ref (a 5), .int 4, .int (-1), .int 0, .long 0, .int 0, .int 0, .int 0, .int 0, .ref (a 14), .ref (a 15), .ref (a 16), .int 0, .ref (a 18), .ref (a 19), .ref (a 20), .ref (a 21), .ref (a 22), .ref (a 23), .int 0, .ref (a 25), .ref (a 26), .ref (a 27), .ref (a 28), .ref (a 29), .ref (a 30), .int 0, .ref (a 32), .ref (a 33), .ref (a 34), .int 0, .ref (a 36), .ref (a 37), .int 0, .int 0, .ref (a 40), .ref (a 41), .int 0, .ref (a 43), .ref (a 44)])), ((a 5), .inl (k 1, 240, .inl f_41))] := hD
      refine lv_iinc (v := (-1)) (lv' := [(4, .int (-1)), (0, .ref (a 0)), (1, .int 4), (2, .long p1)]) hx hb dX8_feed_73 hl (k := 0) rfl (by decide) (by decide) rfl (fun ls hl => ?_)
      refine lv_goto (tgt := 37) hx hb dX8_feed_76 (by decide) ?_
      refine lv_iload hx hb dX8_feed_37 (lv_at hl 0 rfl) ?_
      refine lv_if_lt (tgt := 79) hx hb dX8_feed_39 (by decide) (fun _ => ?_) (fun h => absurd (by decide) h)
      refine lv_aload_n hx hb dX8_feed_79 rfl (lv_at hl 1 rfl) ?_
      refine va_get (D := D) (ci := 8) (v := .int 4) (C := RX8) (T := TX8) (N := 44) hx hb hts inX8 hown hK hP 0 rfl rfl 5 (by decide) (hts _ tw_978) (fun _ h9 => h9) rfl dX8_feed_80 ?_
      have hP9 := hP.sub (ws' := []) [] rfl
      have hD9 := hD.sub (ws' := []) [] (by decide) rfl
      exact W.iret (v := 4) hx hb hr (fun t ht hW => ⟨⟨4, (), rfl, ⟨fun _ => rfl, fun h => absurd ⟨by decide, by decide⟩ h⟩, by rw [ht]; exact hP9, hD9⟩, hS.F ht⟩) hS.2.2 dX8_feed_83
    · refine lv_aload_n hx hb dX8_feed_16 rfl (lv_at hl 0 rfl) ?_
      refine va_get (D := D) (ci := 8) (v := .int 0) (C := RX8) (T := TX8) (N := 44) hx hb hts inX8 hown hK hP 0 rfl rfl 5 (by decide) (hts _ tw_978) (fun _ h9 => h9) rfl dX8_feed_17 ?_
      refine lv_iload_n hx hb dX8_feed_20 rfl (lv_at hl 1 rfl) ?_
      refine lv_iadd hx hb dX8_feed_21 ?_
      refine lv_ti (y := 5) (by decide) ?_
      refine lv_sipush (v := 240) hx hb dX8_feed_22 (by decide) ?_
      refine lv_icmp_le (tgt := 32) hx hb dX8_feed_25 (by decide) (fun _ => ?_) (fun h => absurd (by decide) h)
      refine lv_iload_n hx hb dX8_feed_32 rfl (lv_at hl 1 rfl) ?_
      refine lv_iconst (v := 1) hx hb dX8_feed_33 (by decide) ?_
      refine lv_isub hx hb dX8_feed_34 ?_
      refine lv_ti (y := 4) (by decide) ?_
      refine lv_istore (lv' := [(4, .int 4), (0, .ref (a 0)), (1, .int 5), (2, .long p1)]) hx hb dX8_feed_35 hl (by decide) rfl (fun ls hl => ?_)
      refine lv_iload hx hb dX8_feed_37 (lv_at hl 0 rfl) ?_
      refine lv_if_lt (tgt := 79) hx hb dX8_feed_39 (by decide) (fun h => absurd h (by decide)) (fun _ => ?_)
      refine lv_aload_n hx hb dX8_feed_42 rfl (lv_at hl 1 rfl) ?_
      refine va_get (D := D) (ci := 8) (v := .ref (a 5)) (C := RX8) (T := TX8) (N := 44) hx hb hts inX8 hown hK hP 0 rfl rfl 4 (by decide) (hts _ tw_977) (fun _ h9 => h9) rfl dX8_feed_43 ?_
      refine lv_aload_n hx hb dX8_feed_46 rfl (lv_at hl 1 rfl) ?_
      refine va_get (D := D) (ci := 8) (v := .int 0) (C := RX8) (T := TX8) (N := 44) hx hb hts inX8 hown hK hP 0 rfl rfl 5 (by decide) (hts _ tw_978) (fun _ h9 => h9) rfl dX8_feed_47 ?_
      refine lv_lload_n hx hb dX8_feed_50 rfl (lv_at hl 3 rfl) ?_
      refine lv_bipush (v := 8) hx hb dX8_feed_51 (by decide) ?_
      refine lv_iload hx hb dX8_feed_53 (lv_at hl 0 rfl) ?_
      refine lv_imul hx hb dX8_feed_55 ?_
      refine lv_ti (y := 32) (by decide) ?_
      refine lv_lshr hx hb dX8_feed_56 rfl ?_
      refine lv_topl (fun x_42 ex_42 => ?_)
      refine lv_ldc2 hx hb hown (hts _ tw_1114) dX8_feed_57 ?_
      refine lv_tl (y := ((255 : Int32).toInt64)) (by decide) ?_
      refine lv_land hx hb dX8_feed_60 ?_
      refine lv_topl (fun x_43 ex_43 => ?_)
      refine lv_l2i hx hb dX8_feed_61 rfl ?_
      refine lv_topi (fun x_44 ex_44 => ?_)
      refine va_iast hx hb hK hP hD hS 1 1 rfl rfl (by unfold vp_in; decide) dX8_feed_62 (fun H locs hP hD hS => ?_)
      have hP : va_P D classes [((a 0), .inr (8, [.ref (a 1), .ref (a 2), .ref (a 3), .ref (a 4), .ref (a 5), .int 0, .int (-1), .int 0, .long 0, .int 0, .int 0, .int 0, .int 0, .ref (a 14), .ref (a 15), .ref (a 16), .int 0, .ref (a 18), .ref (a 19), .ref (a 20), .ref (a 21), .ref (a 22), .ref (a 23), .int 0, .ref (a 25), .ref (a 26), .ref (a 27), .ref (a 28), .ref (a 29), .ref (a 30), .int 0, .ref (a 32), .ref (a 33), .ref (a 34), .int 0, .ref (a 36), .ref (a 37), .int 0, .int 0, .ref (a 40), .ref (a 41), .int 0, .ref (a 43), .ref (a 44)])), ((a 5), .inl (k 1, 240, .inl (upd (fun _ => 0) (Int32.toNatClampNeg 0) x_44)))] H := hP
      have hD : va_D A [((a 0), .inr (8, [.ref (a 1), .ref (a 2), .ref (a 3), .ref (a 4), .ref (a 5), .int 0, .int (-1), .int 0, .long 0, .int 0, .int 0, .int 0, .int 0, .ref (a 14), .ref (a 15), .ref (a 16), .int 0, .ref (a 18), .ref (a 19), .ref (a 20), .ref (a 21), .ref (a 22), .ref (a 23), .int 0, .ref (a 25), .ref (a 26), .ref (a 27), .ref (a 28), .ref (a 29), .ref (a 30), .int 0, .ref (a 32), .ref (a 33), .ref (a 34), .int 0, .ref (a 36), .ref (a 37), .int 0, .int 0, .ref (a 40), .ref (a 41), .int 0, .ref (a 43), .ref (a 44)])), ((a 5), .inl (k 1, 240, .inl (upd (fun _ => 0) (Int32.toNatClampNeg 0) x_44)))] := hD
      generalize (upd (fun _ => 0) (Int32.toNatClampNeg 0) x_44) = f_45 at hP hD
      refine lv_aload_n hx hb dX8_feed_63 rfl (lv_at hl 1 rfl) ?_
      refine lv_dup hx hb dX8_feed_64 rfl ?_
      refine va_get (D := D) (ci := 8) (v := .int 0) (C := RX8) (T := TX8) (N := 44) hx hb hts inX8 hown hK hP 0 rfl rfl 5 (by decide) (hts _ tw_978) (fun _ h9 => h9) rfl dX8_feed_65 ?_
      refine lv_iconst (v := 1) hx hb dX8_feed_68 (by decide) ?_
      refine lv_iadd hx hb dX8_feed_69 ?_
      refine lv_ti (y := 1) (by decide) ?_
      refine va_put (D := D) (ci := 8) (v := .int 1) (ty := .int) (C := RX8) (T := TX8) (N := 44) hx hb hts inX8 tyX8 tyX8_ok nmX8 hown hK hP hD hS 0 rfl rfl 5 (by decide) (hts _ tw_978) (fun _ h9 => h9) rfl (by decide +kernel) rfl rfl (Nat.le_of_ble_eq_true rfl) dX8_feed_70 (fun H locs hP hD hS => ?_)
      have hP : va_P D classes [((a 0), .inr (8, [.ref (a 1), .ref (a 2), .ref (a 3), .ref (a 4), .ref (a 5), .int 1, .int (-1), .int 0, .long 0, .int 0, .int 0, .int 0, .int 0, .ref (a 14), .ref (a 15), .ref (a 16), .int 0, .ref (a 18), .ref (a 19), .ref (a 20), .ref (a 21), .ref (a 22), .ref (a 23), .int 0, .ref (a 25), .ref (a 26), .ref (a 27), .ref (a 28), .ref (a 29), .ref (a 30), .int 0, .ref (a 32), .ref (a 33), .ref (a 34), .int 0, .ref (a 36), .ref (a 37), .int 0, .int 0, .ref (a 40), .ref (a 41), .int 0, .ref (a 43), .ref (a 44)])), ((a 5), .inl (k 1, 240, .inl f_45))] H := hP
      have hD : va_D A [((a 0), .inr (8, [.ref (a 1), .ref (a 2), .ref (a 3), .ref (a 4), .ref (a 5), .int 1, .int (-1), .int 0, .long 0, .int 0, .int 0, .int 0, .int 0, .ref (a 14), .ref (a 15), .ref (a 16), .int 0, .ref (a 18), .ref (a 19), .ref (a 20), .ref (a 21), .ref (a 22), .ref (a 23), .int 0, .ref (a 25), .ref (a 26), .ref (a 27), .ref (a 28), .ref (a 29), .ref (a 30), .int 0, .ref (a 32), .ref (a 33), .ref (a 34), .int 0, .ref (a 36), .ref (a 37), .int 0, .int 0, .ref (a 40), .ref (a 41), .int 0, .ref (a 43), .ref (a 44)])), ((a 5), .inl (k 1, 240, .inl f_45))] := hD
      refine lv_iinc (v := 3) (lv' := [(4, .int 3), (0, .ref (a 0)), (1, .int 5), (2, .long p1)]) hx hb dX8_feed_73 hl (k := 0) rfl (by decide) (by decide) rfl (fun ls hl => ?_)
      refine lv_goto (tgt := 37) hx hb dX8_feed_76 (by decide) ?_
      refine lv_iload hx hb dX8_feed_37 (lv_at hl 0 rfl) ?_
      refine lv_if_lt (tgt := 79) hx hb dX8_feed_39 (by decide) (fun h => absurd h (by decide)) (fun _ => ?_)
      refine lv_aload_n hx hb dX8_feed_42 rfl (lv_at hl 1 rfl) ?_
      refine va_get (D := D) (ci := 8) (v := .ref (a 5)) (C := RX8) (T := TX8) (N := 44) hx hb hts inX8 hown hK hP 0 rfl rfl 4 (by decide) (hts _ tw_977) (fun _ h9 => h9) rfl dX8_feed_43 ?_
      refine lv_aload_n hx hb dX8_feed_46 rfl (lv_at hl 1 rfl) ?_
      refine va_get (D := D) (ci := 8) (v := .int 1) (C := RX8) (T := TX8) (N := 44) hx hb hts inX8 hown hK hP 0 rfl rfl 5 (by decide) (hts _ tw_978) (fun _ h9 => h9) rfl dX8_feed_47 ?_
      refine lv_lload_n hx hb dX8_feed_50 rfl (lv_at hl 3 rfl) ?_
      refine lv_bipush (v := 8) hx hb dX8_feed_51 (by decide) ?_
      refine lv_iload hx hb dX8_feed_53 (lv_at hl 0 rfl) ?_
      refine lv_imul hx hb dX8_feed_55 ?_
      refine lv_ti (y := 24) (by decide) ?_
      refine lv_lshr hx hb dX8_feed_56 rfl ?_
      refine lv_topl (fun x_46 ex_46 => ?_)
      refine lv_ldc2 hx hb hown (hts _ tw_1114) dX8_feed_57 ?_
      refine lv_tl (y := ((255 : Int32).toInt64)) (by decide) ?_
      refine lv_land hx hb dX8_feed_60 ?_
      refine lv_topl (fun x_47 ex_47 => ?_)
      refine lv_l2i hx hb dX8_feed_61 rfl ?_
      refine lv_topi (fun x_48 ex_48 => ?_)
      refine va_iast hx hb hK hP hD hS 1 1 rfl rfl (by unfold vp_in; decide) dX8_feed_62 (fun H locs hP hD hS => ?_)
      have hP : va_P D classes [((a 0), .inr (8, [.ref (a 1), .ref (a 2), .ref (a 3), .ref (a 4), .ref (a 5), .int 1, .int (-1), .int 0, .long 0, .int 0, .int 0, .int 0, .int 0, .ref (a 14), .ref (a 15), .ref (a 16), .int 0, .ref (a 18), .ref (a 19), .ref (a 20), .ref (a 21), .ref (a 22), .ref (a 23), .int 0, .ref (a 25), .ref (a 26), .ref (a 27), .ref (a 28), .ref (a 29), .ref (a 30), .int 0, .ref (a 32), .ref (a 33), .ref (a 34), .int 0, .ref (a 36), .ref (a 37), .int 0, .int 0, .ref (a 40), .ref (a 41), .int 0, .ref (a 43), .ref (a 44)])), ((a 5), .inl (k 1, 240, .inl (upd f_45 (Int32.toNatClampNeg 1) x_48)))] H := hP
      have hD : va_D A [((a 0), .inr (8, [.ref (a 1), .ref (a 2), .ref (a 3), .ref (a 4), .ref (a 5), .int 1, .int (-1), .int 0, .long 0, .int 0, .int 0, .int 0, .int 0, .ref (a 14), .ref (a 15), .ref (a 16), .int 0, .ref (a 18), .ref (a 19), .ref (a 20), .ref (a 21), .ref (a 22), .ref (a 23), .int 0, .ref (a 25), .ref (a 26), .ref (a 27), .ref (a 28), .ref (a 29), .ref (a 30), .int 0, .ref (a 32), .ref (a 33), .ref (a 34), .int 0, .ref (a 36), .ref (a 37), .int 0, .int 0, .ref (a 40), .ref (a 41), .int 0, .ref (a 43), .ref (a 44)])), ((a 5), .inl (k 1, 240, .inl (upd f_45 (Int32.toNatClampNeg 1) x_48)))] := hD
      generalize (upd f_45 (Int32.toNatClampNeg 1) x_48) = f_49 at hP hD
      refine lv_aload_n hx hb dX8_feed_63 rfl (lv_at hl 1 rfl) ?_
      refine lv_dup hx hb dX8_feed_64 rfl ?_
      refine va_get (D := D) (ci := 8) (v := .int 1) (C := RX8) (T := TX8) (N := 44) hx hb hts inX8 hown hK hP 0 rfl rfl 5 (by decide) (hts _ tw_978) (fun _ h9 => h9) rfl dX8_feed_65 ?_
      refine lv_iconst (v := 1) hx hb dX8_feed_68 (by decide) ?_
      refine lv_iadd hx hb dX8_feed_69 ?_
      refine lv_ti (y := 2) (by decide) ?_
      refine va_put (D := D) (ci := 8) (v := .int 2) (ty := .int) (C := RX8) (T := TX8) (N := 44) hx hb hts inX8 tyX8 tyX8_ok nmX8 hown hK hP hD hS 0 rfl rfl 5 (by decide) (hts _ tw_978) (fun _ h9 => h9) rfl (by decide +kernel) rfl rfl (Nat.le_of_ble_eq_true rfl) dX8_feed_70 (fun H locs hP hD hS => ?_)
      have hP : va_P D classes [((a 0), .inr (8, [.ref (a 1), .ref (a 2), .ref (a 3), .ref (a 4), .ref (a 5), .int 2, .int (-1), .int 0, .long 0, .int 0, .int 0, .int 0, .int 0, .ref (a 14), .ref (a 15), .ref (a 16), .int 0, .ref (a 18), .ref (a 19), .ref (a 20), .ref (a 21), .ref (a 22), .ref (a 23), .int 0, .ref (a 25), .ref (a 26), .ref (a 27), .ref (a 28), .ref (a 29), .ref (a 30), .int 0, .ref (a 32), .ref (a 33), .ref (a 34), .int 0, .ref (a 36), .ref (a 37), .int 0, .int 0, .ref (a 40), .ref (a 41), .int 0, .ref (a 43), .ref (a 44)])), ((a 5), .inl (k 1, 240, .inl f_49))] H := hP
      have hD : va_D A [((a 0), .inr (8, [.ref (a 1), .ref (a 2), .ref (a 3), .ref (a 4), .ref (a 5), .int 2, .int (-1), .int 0, .long 0, .int 0, .int 0, .int 0, .int 0, .ref (a 14), .ref (a 15), .ref (a 16), .int 0, .ref (a 18), .ref (a 19), .ref (a 20), .ref (a 21), .ref (a 22), .ref (a 23), .int 0, .ref (a 25), .ref (a 26), .ref (a 27), .ref (a 28), .ref (a 29), .ref (a 30), .int 0, .ref (a 32), .ref (a 33), .ref (a 34), .int 0, .ref (a 36), .ref (a 37), .int 0, .int 0, .ref (a 40), .ref (a 41), .int 0, .ref (a 43), .ref (a 44)])), ((a 5), .inl (k 1, 240, .inl f_49))] := hD
      refine lv_iinc (v := 2) (lv' := [(4, .int 2), (0, .ref (a 0)), (1, .int 5), (2, .long p1)]) hx hb dX8_feed_73 hl (k := 0) rfl (by decide) (by decide) rfl (fun ls hl => ?_)
      refine lv_goto (tgt := 37) hx hb dX8_feed_76 (by decide) ?_
      refine lv_iload hx hb dX8_feed_37 (lv_at hl 0 rfl) ?_
      refine lv_if_lt (tgt := 79) hx hb dX8_feed_39 (by decide) (fun h => absurd h (by decide)) (fun _ => ?_)
      refine lv_aload_n hx hb dX8_feed_42 rfl (lv_at hl 1 rfl) ?_
      refine va_get (D := D) (ci := 8) (v := .ref (a 5)) (C := RX8) (T := TX8) (N := 44) hx hb hts inX8 hown hK hP 0 rfl rfl 4 (by decide) (hts _ tw_977) (fun _ h9 => h9) rfl dX8_feed_43 ?_
      refine lv_aload_n hx hb dX8_feed_46 rfl (lv_at hl 1 rfl) ?_
      refine va_get (D := D) (ci := 8) (v := .int 2) (C := RX8) (T := TX8) (N := 44) hx hb hts inX8 hown hK hP 0 rfl rfl 5 (by decide) (hts _ tw_978) (fun _ h9 => h9) rfl dX8_feed_47 ?_
      refine lv_lload_n hx hb dX8_feed_50 rfl (lv_at hl 3 rfl) ?_
      refine lv_bipush (v := 8) hx hb dX8_feed_51 (by decide) ?_
      refine lv_iload hx hb dX8_feed_53 (lv_at hl 0 rfl) ?_
      refine lv_imul hx hb dX8_feed_55 ?_
      refine lv_ti (y := 16) (by decide) ?_
      refine lv_lshr hx hb dX8_feed_56 rfl ?_
      refine lv_topl (fun x_50 ex_50 => ?_)
      refine lv_ldc2 hx hb hown (hts _ tw_1114) dX8_feed_57 ?_
      refine lv_tl (y := ((255 : Int32).toInt64)) (by decide) ?_
      refine lv_land hx hb dX8_feed_60 ?_
      refine lv_topl (fun x_51 ex_51 => ?_)
      refine lv_l2i hx hb dX8_feed_61 rfl ?_
      refine lv_topi (fun x_52 ex_52 => ?_)
      refine va_iast hx hb hK hP hD hS 1 1 rfl rfl (by unfold vp_in; decide) dX8_feed_62 (fun H locs hP hD hS => ?_)
      have hP : va_P D classes [((a 0), .inr (8, [.ref (a 1), .ref (a 2), .ref (a 3), .ref (a 4), .ref (a 5), .int 2, .int (-1), .int 0, .long 0, .int 0, .int 0, .int 0, .int 0, .ref (a 14), .ref (a 15), .ref (a 16), .int 0, .ref (a 18), .ref (a 19), .ref (a 20), .ref (a 21), .ref (a 22), .ref (a 23), .int 0, .ref (a 25), .ref (a 26), .ref (a 27), .ref (a 28), .ref (a 29), .ref (a 30), .int 0, .ref (a 32), .ref (a 33), .ref (a 34), .int 0, .ref (a 36), .ref (a 37), .int 0, .int 0, .ref (a 40), .ref (a 41), .int 0, .ref (a 43), .ref (a 44)])), ((a 5), .inl (k 1, 240, .inl (upd f_49 (Int32.toNatClampNeg 2) x_52)))] H := hP
      have hD : va_D A [((a 0), .inr (8, [.ref (a 1), .ref (a 2), .ref (a 3), .ref (a 4), .ref (a 5), .int 2, .int (-1), .int 0, .long 0, .int 0, .int 0, .int 0, .int 0, .ref (a 14), .ref (a 15), .ref (a 16), .int 0, .ref (a 18), .ref (a 19), .ref (a 20), .ref (a 21), .ref (a 22), .ref (a 23), .int 0, .ref (a 25), .ref (a 26), .ref (a 27), .ref (a 28), .ref (a 29), .ref (a 30), .int 0, .ref (a 32), .ref (a 33), .ref (a 34), .int 0, .ref (a 36), .ref (a 37), .int 0, .int 0, .ref (a 40), .ref (a 41), .int 0, .ref (a 43), .ref (a 44)])), ((a 5), .inl (k 1, 240, .inl (upd f_49 (Int32.toNatClampNeg 2) x_52)))] := hD
      generalize (upd f_49 (Int32.toNatClampNeg 2) x_52) = f_53 at hP hD
      refine lv_aload_n hx hb dX8_feed_63 rfl (lv_at hl 1 rfl) ?_
      refine lv_dup hx hb dX8_feed_64 rfl ?_
      refine va_get (D := D) (ci := 8) (v := .int 2) (C := RX8) (T := TX8) (N := 44) hx hb hts inX8 hown hK hP 0 rfl rfl 5 (by decide) (hts _ tw_978) (fun _ h9 => h9) rfl dX8_feed_65 ?_
      refine lv_iconst (v := 1) hx hb dX8_feed_68 (by decide) ?_
      refine lv_iadd hx hb dX8_feed_69 ?_
      refine lv_ti (y := 3) (by decide) ?_
      refine va_put (D := D) (ci := 8) (v := .int 3) (ty := .int) (C := RX8) (T := TX8) (N := 44) hx hb hts inX8 tyX8 tyX8_ok nmX8 hown hK hP hD hS 0 rfl rfl 5 (by decide) (hts _ tw_978) (fun _ h9 => h9) rfl (by decide +kernel) rfl rfl (Nat.le_of_ble_eq_true rfl) dX8_feed_70 (fun H locs hP hD hS => ?_)
      have hP : va_P D classes [((a 0), .inr (8, [.ref (a 1), .ref (a 2), .ref (a 3), .ref (a 4), .ref (a 5), .int 3, .int (-1), .int 0, .long 0, .int 0, .int 0, .int 0, .int 0, .ref (a 14), .ref (a 15), .ref (a 16), .int 0, .ref (a 18), .ref (a 19), .ref (a 20), .ref (a 21), .ref (a 22), .ref (a 23), .int 0, .ref (a 25), .ref (a 26), .ref (a 27), .ref (a 28), .ref (a 29), .ref (a 30), .int 0, .ref (a 32), .ref (a 33), .ref (a 34), .int 0, .ref (a 36), .ref (a 37), .int 0, .int 0, .ref (a 40), .ref (a 41), .int 0, .ref (a 43), .ref (a 44)])), ((a 5), .inl (k 1, 240, .inl f_53))] H := hP
      have hD : va_D A [((a 0), .inr (8, [.ref (a 1), .ref (a 2), .ref (a 3), .ref (a 4), .ref (a 5), .int 3, .int (-1), .int 0, .long 0, .int 0, .int 0, .int 0, .int 0, .ref (a 14), .ref (a 15), .ref (a 16), .int 0, .ref (a 18), .ref (a 19), .ref (a 20), .ref (a 21), .ref (a 22), .ref (a 23), .int 0, .ref (a 25), .ref (a 26), .ref (a 27), .ref (a 28), .ref (a 29), .ref (a 30), .int 0, .ref (a 32), .ref (a 33), .ref (a 34), .int 0, .ref (a 36), .ref (a 37), .int 0, .int 0, .ref (a 40), .ref (a 41), .int 0, .ref (a 43), .ref (a 44)])), ((a 5), .inl (k 1, 240, .inl f_53))] := hD
      refine lv_iinc (v := 1) (lv' := [(4, .int 1), (0, .ref (a 0)), (1, .int 5), (2, .long p1)]) hx hb dX8_feed_73 hl (k := 0) rfl (by decide) (by decide) rfl (fun ls hl => ?_)
      refine lv_goto (tgt := 37) hx hb dX8_feed_76 (by decide) ?_
      refine lv_iload hx hb dX8_feed_37 (lv_at hl 0 rfl) ?_
      refine lv_if_lt (tgt := 79) hx hb dX8_feed_39 (by decide) (fun h => absurd h (by decide)) (fun _ => ?_)
      refine lv_aload_n hx hb dX8_feed_42 rfl (lv_at hl 1 rfl) ?_
      refine va_get (D := D) (ci := 8) (v := .ref (a 5)) (C := RX8) (T := TX8) (N := 44) hx hb hts inX8 hown hK hP 0 rfl rfl 4 (by decide) (hts _ tw_977) (fun _ h9 => h9) rfl dX8_feed_43 ?_
      refine lv_aload_n hx hb dX8_feed_46 rfl (lv_at hl 1 rfl) ?_
      refine va_get (D := D) (ci := 8) (v := .int 3) (C := RX8) (T := TX8) (N := 44) hx hb hts inX8 hown hK hP 0 rfl rfl 5 (by decide) (hts _ tw_978) (fun _ h9 => h9) rfl dX8_feed_47 ?_
      refine lv_lload_n hx hb dX8_feed_50 rfl (lv_at hl 3 rfl) ?_
      refine lv_bipush (v := 8) hx hb dX8_feed_51 (by decide) ?_
      refine lv_iload hx hb dX8_feed_53 (lv_at hl 0 rfl) ?_
      refine lv_imul hx hb dX8_feed_55 ?_
      refine lv_ti (y := 8) (by decide) ?_
      refine lv_lshr hx hb dX8_feed_56 rfl ?_
      refine lv_topl (fun x_54 ex_54 => ?_)
      refine lv_ldc2 hx hb hown (hts _ tw_1114) dX8_feed_57 ?_
      refine lv_tl (y := ((255 : Int32).toInt64)) (by decide) ?_
      refine lv_land hx hb dX8_feed_60 ?_
      refine lv_topl (fun x_55 ex_55 => ?_)
      refine lv_l2i hx hb dX8_feed_61 rfl ?_
      refine lv_topi (fun x_56 ex_56 => ?_)
      refine va_iast hx hb hK hP hD hS 1 1 rfl rfl (by unfold vp_in; decide) dX8_feed_62 (fun H locs hP hD hS => ?_)
      have hP : va_P D classes [((a 0), .inr (8, [.ref (a 1), .ref (a 2), .ref (a 3), .ref (a 4), .ref (a 5), .int 3, .int (-1), .int 0, .long 0, .int 0, .int 0, .int 0, .int 0, .ref (a 14), .ref (a 15), .ref (a 16), .int 0, .ref (a 18), .ref (a 19), .ref (a 20), .ref (a 21), .ref (a 22), .ref (a 23), .int 0, .ref (a 25), .ref (a 26), .ref (a 27), .ref (a 28), .ref (a 29), .ref (a 30), .int 0, .ref (a 32), .ref (a 33), .ref (a 34), .int 0, .ref (a 36), .ref (a 37), .int 0, .int 0, .ref (a 40), .ref (a 41), .int 0, .ref (a 43), .ref (a 44)])), ((a 5), .inl (k 1, 240, .inl (upd f_53 (Int32.toNatClampNeg 3) x_56)))] H := hP
      have hD : va_D A [((a 0), .inr (8, [.ref (a 1), .ref (a 2), .ref (a 3), .ref (a 4), .ref (a 5), .int 3, .int (-1), .int 0, .long 0, .int 0, .int 0, .int 0, .int 0, .ref (a 14), .ref (a 15), .ref (a 16), .int 0, .ref (a 18), .ref (a 19), .ref (a 20), .ref (a 21), .ref (a 22), .ref (a 23), .int 0, .ref (a 25), .ref (a 26), .ref (a 27), .ref (a 28), .ref (a 29), .ref (a 30), .int 0, .ref (a 32), .ref (a 33), .ref (a 34), .int 0, .ref (a 36), .ref (a 37), .int 0, .int 0, .ref (a 40), .ref (a 41), .int 0, .ref (a 43), .ref (a 44)])), ((a 5), .inl (k 1, 240, .inl (upd f_53 (Int32.toNatClampNeg 3) x_56)))] := hD
      generalize (upd f_53 (Int32.toNatClampNeg 3) x_56) = f_57 at hP hD
      refine lv_aload_n hx hb dX8_feed_63 rfl (lv_at hl 1 rfl) ?_
      refine lv_dup hx hb dX8_feed_64 rfl ?_
      refine va_get (D := D) (ci := 8) (v := .int 3) (C := RX8) (T := TX8) (N := 44) hx hb hts inX8 hown hK hP 0 rfl rfl 5 (by decide) (hts _ tw_978) (fun _ h9 => h9) rfl dX8_feed_65 ?_
      refine lv_iconst (v := 1) hx hb dX8_feed_68 (by decide) ?_
      refine lv_iadd hx hb dX8_feed_69 ?_
      refine lv_ti (y := 4) (by decide) ?_
      refine va_put (D := D) (ci := 8) (v := .int 4) (ty := .int) (C := RX8) (T := TX8) (N := 44) hx hb hts inX8 tyX8 tyX8_ok nmX8 hown hK hP hD hS 0 rfl rfl 5 (by decide) (hts _ tw_978) (fun _ h9 => h9) rfl (by decide +kernel) rfl rfl (Nat.le_of_ble_eq_true rfl) dX8_feed_70 (fun H locs hP hD hS => ?_)
      have hP : va_P D classes [((a 0), .inr (8, [.ref (a 1), .ref (a 2), .ref (a 3), .ref (a 4), .ref (a 5), .int 4, .int (-1), .int 0, .long 0, .int 0, .int 0, .int 0, .int 0, .ref (a 14), .ref (a 15), .ref (a 16), .int 0, .ref (a 18), .ref (a 19), .ref (a 20), .ref (a 21), .ref (a 22), .ref (a 23), .int 0, .ref (a 25), .ref (a 26), .ref (a 27), .ref (a 28), .ref (a 29), .ref (a 30), .int 0, .ref (a 32), .ref (a 33), .ref (a 34), .int 0, .ref (a 36), .ref (a 37), .int 0, .int 0, .ref (a 40), .ref (a 41), .int 0, .ref (a 43), .ref (a 44)])), ((a 5), .inl (k 1, 240, .inl f_57))] H := hP
      have hD : va_D A [((a 0), .inr (8, [.ref (a 1), .ref (a 2), .ref (a 3), .ref (a 4), .ref (a 5), .int 4, .int (-1), .int 0, .long 0, .int 0, .int 0, .int 0, .int 0, .ref (a 14), .ref (a 15), .ref (a 16), .int 0, .ref (a 18), .ref (a 19), .ref (a 20), .ref (a 21), .ref (a 22), .ref (a 23), .int 0, .ref (a 25), .ref (a 26), .ref (a 27), .ref (a 28), .ref (a 29), .ref (a 30), .int 0, .ref (a 32), .ref (a 33), .ref (a 34), .int 0, .ref (a 36), .ref (a 37), .int 0, .int 0, .ref (a 40), .ref (a 41), .int 0, .ref (a 43), .ref (a 44)])), ((a 5), .inl (k 1, 240, .inl f_57))] := hD
      refine lv_iinc (v := 0) (lv' := [(4, .int 0), (0, .ref (a 0)), (1, .int 5), (2, .long p1)]) hx hb dX8_feed_73 hl (k := 0) rfl (by decide) (by decide) rfl (fun ls hl => ?_)
      refine lv_goto (tgt := 37) hx hb dX8_feed_76 (by decide) ?_
      refine lv_iload hx hb dX8_feed_37 (lv_at hl 0 rfl) ?_
      refine lv_if_lt (tgt := 79) hx hb dX8_feed_39 (by decide) (fun h => absurd h (by decide)) (fun _ => ?_)
      refine lv_aload_n hx hb dX8_feed_42 rfl (lv_at hl 1 rfl) ?_
      refine va_get (D := D) (ci := 8) (v := .ref (a 5)) (C := RX8) (T := TX8) (N := 44) hx hb hts inX8 hown hK hP 0 rfl rfl 4 (by decide) (hts _ tw_977) (fun _ h9 => h9) rfl dX8_feed_43 ?_
      refine lv_aload_n hx hb dX8_feed_46 rfl (lv_at hl 1 rfl) ?_
      refine va_get (D := D) (ci := 8) (v := .int 4) (C := RX8) (T := TX8) (N := 44) hx hb hts inX8 hown hK hP 0 rfl rfl 5 (by decide) (hts _ tw_978) (fun _ h9 => h9) rfl dX8_feed_47 ?_
      refine lv_lload_n hx hb dX8_feed_50 rfl (lv_at hl 3 rfl) ?_
      refine lv_bipush (v := 8) hx hb dX8_feed_51 (by decide) ?_
      refine lv_iload hx hb dX8_feed_53 (lv_at hl 0 rfl) ?_
      refine lv_imul hx hb dX8_feed_55 ?_
      refine lv_ti (y := 0) (by decide) ?_
      refine lv_lshr hx hb dX8_feed_56 rfl ?_
      refine lv_topl (fun x_58 ex_58 => ?_)
      refine lv_ldc2 hx hb hown (hts _ tw_1114) dX8_feed_57 ?_
      refine lv_tl (y := ((255 : Int32).toInt64)) (by decide) ?_
      refine lv_land hx hb dX8_feed_60 ?_
      refine lv_topl (fun x_59 ex_59 => ?_)
      refine lv_l2i hx hb dX8_feed_61 rfl ?_
      refine lv_topi (fun x_60 ex_60 => ?_)
      refine va_iast hx hb hK hP hD hS 1 1 rfl rfl (by unfold vp_in; decide) dX8_feed_62 (fun H locs hP hD hS => ?_)
      have hP : va_P D classes [((a 0), .inr (8, [.ref (a 1), .ref (a 2), .ref (a 3), .ref (a 4), .ref (a 5), .int 4, .int (-1), .int 0, .long 0, .int 0, .int 0, .int 0, .int 0, .ref (a 14), .ref (a 15), .ref (a 16), .int 0, .ref (a 18), .ref (a 19), .ref (a 20), .ref (a 21), .ref (a 22), .ref (a 23), .int 0, .ref (a 25), .ref (a 26), .ref (a 27), .ref (a 28), .ref (a 29), .ref (a 30), .int 0, .ref (a 32), .ref (a 33), .ref (a 34), .int 0, .ref (a 36), .ref (a 37), .int 0, .int 0, .ref (a 40), .ref (a 41), .int 0, .ref (a 43), .ref (a 44)])), ((a 5), .inl (k 1, 240, .inl (upd f_57 (Int32.toNatClampNeg 4) x_60)))] H := hP
      have hD : va_D A [((a 0), .inr (8, [.ref (a 1), .ref (a 2), .ref (a 3), .ref (a 4), .ref (a 5), .int 4, .int (-1), .int 0, .long 0, .int 0, .int 0, .int 0, .int 0, .ref (a 14), .ref (a 15), .ref (a 16), .int 0, .ref (a 18), .ref (a 19), .ref (a 20), .ref (a 21), .ref (a 22), .ref (a 23), .int 0, .ref (a 25), .ref (a 26), .ref (a 27), .ref (a 28), .ref (a 29), .ref (a 30), .int 0, .ref (a 32), .ref (a 33), .ref (a 34), .int 0, .ref (a 36), .ref (a 37), .int 0, .int 0, .ref (a 40), .ref (a 41), .int 0, .ref (a 43), .ref (a 44)])), ((a 5), .inl (k 1, 240, .inl (upd f_57 (Int32.toNatClampNeg 4) x_60)))] := hD
      generalize (upd f_57 (Int32.toNatClampNeg 4) x_60) = f_61 at hP hD
      refine lv_aload_n hx hb dX8_feed_63 rfl (lv_at hl 1 rfl) ?_
      refine lv_dup hx hb dX8_feed_64 rfl ?_
      refine va_get (D := D) (ci := 8) (v := .int 4) (C := RX8) (T := TX8) (N := 44) hx hb hts inX8 hown hK hP 0 rfl rfl 5 (by decide) (hts _ tw_978) (fun _ h9 => h9) rfl dX8_feed_65 ?_
      refine lv_iconst (v := 1) hx hb dX8_feed_68 (by decide) ?_
      refine lv_iadd hx hb dX8_feed_69 ?_
      refine lv_ti (y := 5) (by decide) ?_
      refine va_put (D := D) (ci := 8) (v := .int 5) (ty := .int) (C := RX8) (T := TX8) (N := 44) hx hb hts inX8 tyX8 tyX8_ok nmX8 hown hK hP hD hS 0 rfl rfl 5 (by decide) (hts _ tw_978) (fun _ h9 => h9) rfl (by decide +kernel) rfl rfl (Nat.le_of_ble_eq_true rfl) dX8_feed_70 (fun H locs hP hD hS => ?_)
      have hP : va_P D classes [((a 0), .inr (8, [.ref (a 1), .ref (a 2), .ref (a 3), .ref (a 4), .ref (a 5), .int 5, .int (-1), .int 0, .long 0, .int 0, .int 0, .int 0, .int 0, .ref (a 14), .ref (a 15), .ref (a 16), .int 0, .ref (a 18), .ref (a 19), .ref (a 20), .ref (a 21), .ref (a 22), .ref (a 23), .int 0, .ref (a 25), .ref (a 26), .ref (a 27), .ref (a 28), .ref (a 29), .ref (a 30), .int 0, .ref (a 32), .ref (a 33), .ref (a 34), .int 0, .ref (a 36), .ref (a 37), .int 0, .int 0, .ref (a 40), .ref (a 41), .int 0, .ref (a 43), .ref (a 44)])), ((a 5), .inl (k 1, 240, .inl f_61))] H := hP
      have hD : va_D A [((a 0), .inr (8, [.ref (a 1), .ref (a 2), .ref (a 3), .ref (a 4), .ref (a 5), .int 5, .int (-1), .int 0, .long 0, .int 0, .int 0, .int 0, .int 0, .ref (a 14), .ref (a 15), .ref (a 16), .int 0, .ref (a 18), .ref (a 19), .ref (a 20), .ref (a 21), .ref (a 22), .ref (a 23), .int 0, .ref (a 25), .ref (a 26), .ref (a 27), .ref (a 28), .ref (a 29), .ref (a 30), .int 0, .ref (a 32), .ref (a 33), .ref (a 34), .int 0, .ref (a 36), .ref (a 37), .int 0, .int 0, .ref (a 40), .ref (a 41), .int 0, .ref (a 43), .ref (a 44)])), ((a 5), .inl (k 1, 240, .inl f_61))] := hD
      refine lv_iinc (v := (-1)) (lv' := [(4, .int (-1)), (0, .ref (a 0)), (1, .int 5), (2, .long p1)]) hx hb dX8_feed_73 hl (k := 0) rfl (by decide) (by decide) rfl (fun ls hl => ?_)
      refine lv_goto (tgt := 37) hx hb dX8_feed_76 (by decide) ?_
      refine lv_iload hx hb dX8_feed_37 (lv_at hl 0 rfl) ?_
      refine lv_if_lt (tgt := 79) hx hb dX8_feed_39 (by decide) (fun _ => ?_) (fun h => absurd (by decide) h)
      refine lv_aload_n hx hb dX8_feed_79 rfl (lv_at hl 1 rfl) ?_
      refine va_get (D := D) (ci := 8) (v := .int 5) (C := RX8) (T := TX8) (N := 44) hx hb hts inX8 hown hK hP 0 rfl rfl 5 (by decide) (hts _ tw_978) (fun _ h9 => h9) rfl dX8_feed_80 ?_
      have hP9 := hP.sub (ws' := []) [] rfl
      have hD9 := hD.sub (ws' := []) [] (by decide) rfl
      exact W.iret (v := 5) hx hb hr (fun t ht hW => ⟨⟨5, (), rfl, ⟨fun _ => rfl, fun h => absurd ⟨by decide, by decide⟩ h⟩, by rw [ht]; exact hP9, hD9⟩, hS.F ht⟩) hS.2.2 dX8_feed_83
    · refine lv_aload_n hx hb dX8_feed_16 rfl (lv_at hl 0 rfl) ?_
      refine va_get (D := D) (ci := 8) (v := .int 0) (C := RX8) (T := TX8) (N := 44) hx hb hts inX8 hown hK hP 0 rfl rfl 5 (by decide) (hts _ tw_978) (fun _ h9 => h9) rfl dX8_feed_17 ?_
      refine lv_iload_n hx hb dX8_feed_20 rfl (lv_at hl 1 rfl) ?_
      refine lv_iadd hx hb dX8_feed_21 ?_
      refine lv_ti (y := 6) (by decide) ?_
      refine lv_sipush (v := 240) hx hb dX8_feed_22 (by decide) ?_
      refine lv_icmp_le (tgt := 32) hx hb dX8_feed_25 (by decide) (fun _ => ?_) (fun h => absurd (by decide) h)
      refine lv_iload_n hx hb dX8_feed_32 rfl (lv_at hl 1 rfl) ?_
      refine lv_iconst (v := 1) hx hb dX8_feed_33 (by decide) ?_
      refine lv_isub hx hb dX8_feed_34 ?_
      refine lv_ti (y := 5) (by decide) ?_
      refine lv_istore (lv' := [(4, .int 5), (0, .ref (a 0)), (1, .int 6), (2, .long p1)]) hx hb dX8_feed_35 hl (by decide) rfl (fun ls hl => ?_)
      refine lv_iload hx hb dX8_feed_37 (lv_at hl 0 rfl) ?_
      refine lv_if_lt (tgt := 79) hx hb dX8_feed_39 (by decide) (fun h => absurd h (by decide)) (fun _ => ?_)
      refine lv_aload_n hx hb dX8_feed_42 rfl (lv_at hl 1 rfl) ?_
      refine va_get (D := D) (ci := 8) (v := .ref (a 5)) (C := RX8) (T := TX8) (N := 44) hx hb hts inX8 hown hK hP 0 rfl rfl 4 (by decide) (hts _ tw_977) (fun _ h9 => h9) rfl dX8_feed_43 ?_
      refine lv_aload_n hx hb dX8_feed_46 rfl (lv_at hl 1 rfl) ?_
      refine va_get (D := D) (ci := 8) (v := .int 0) (C := RX8) (T := TX8) (N := 44) hx hb hts inX8 hown hK hP 0 rfl rfl 5 (by decide) (hts _ tw_978) (fun _ h9 => h9) rfl dX8_feed_47 ?_
      refine lv_lload_n hx hb dX8_feed_50 rfl (lv_at hl 3 rfl) ?_
      refine lv_bipush (v := 8) hx hb dX8_feed_51 (by decide) ?_
      refine lv_iload hx hb dX8_feed_53 (lv_at hl 0 rfl) ?_
      refine lv_imul hx hb dX8_feed_55 ?_
      refine lv_ti (y := 40) (by decide) ?_
      refine lv_lshr hx hb dX8_feed_56 rfl ?_
      refine lv_topl (fun x_62 ex_62 => ?_)
      refine lv_ldc2 hx hb hown (hts _ tw_1114) dX8_feed_57 ?_
      refine lv_tl (y := ((255 : Int32).toInt64)) (by decide) ?_
      refine lv_land hx hb dX8_feed_60 ?_
      refine lv_topl (fun x_63 ex_63 => ?_)
      refine lv_l2i hx hb dX8_feed_61 rfl ?_
      refine lv_topi (fun x_64 ex_64 => ?_)
      refine va_iast hx hb hK hP hD hS 1 1 rfl rfl (by unfold vp_in; decide) dX8_feed_62 (fun H locs hP hD hS => ?_)
      have hP : va_P D classes [((a 0), .inr (8, [.ref (a 1), .ref (a 2), .ref (a 3), .ref (a 4), .ref (a 5), .int 0, .int (-1), .int 0, .long 0, .int 0, .int 0, .int 0, .int 0, .ref (a 14), .ref (a 15), .ref (a 16), .int 0, .ref (a 18), .ref (a 19), .ref (a 20), .ref (a 21), .ref (a 22), .ref (a 23), .int 0, .ref (a 25), .ref (a 26), .ref (a 27), .ref (a 28), .ref (a 29), .ref (a 30), .int 0, .ref (a 32), .ref (a 33), .ref (a 34), .int 0, .ref (a 36), .ref (a 37), .int 0, .int 0, .ref (a 40), .ref (a 41), .int 0, .ref (a 43), .ref (a 44)])), ((a 5), .inl (k 1, 240, .inl (upd (fun _ => 0) (Int32.toNatClampNeg 0) x_64)))] H := hP
      have hD : va_D A [((a 0), .inr (8, [.ref (a 1), .ref (a 2), .ref (a 3), .ref (a 4), .ref (a 5), .int 0, .int (-1), .int 0, .long 0, .int 0, .int 0, .int 0, .int 0, .ref (a 14), .ref (a 15), .ref (a 16), .int 0, .ref (a 18), .ref (a 19), .ref (a 20), .ref (a 21), .ref (a 22), .ref (a 23), .int 0, .ref (a 25), .ref (a 26), .ref (a 27), .ref (a 28), .ref (a 29), .ref (a 30), .int 0, .ref (a 32), .ref (a 33), .ref (a 34), .int 0, .ref (a 36), .ref (a 37), .int 0, .int 0, .ref (a 40), .ref (a 41), .int 0, .ref (a 43), .ref (a 44)])), ((a 5), .inl (k 1, 240, .inl (upd (fun _ => 0) (Int32.toNatClampNeg 0) x_64)))] := hD
      generalize (upd (fun _ => 0) (Int32.toNatClampNeg 0) x_64) = f_65 at hP hD
      refine lv_aload_n hx hb dX8_feed_63 rfl (lv_at hl 1 rfl) ?_
      refine lv_dup hx hb dX8_feed_64 rfl ?_
      refine va_get (D := D) (ci := 8) (v := .int 0) (C := RX8) (T := TX8) (N := 44) hx hb hts inX8 hown hK hP 0 rfl rfl 5 (by decide) (hts _ tw_978) (fun _ h9 => h9) rfl dX8_feed_65 ?_
      refine lv_iconst (v := 1) hx hb dX8_feed_68 (by decide) ?_
      refine lv_iadd hx hb dX8_feed_69 ?_
      refine lv_ti (y := 1) (by decide) ?_
      refine va_put (D := D) (ci := 8) (v := .int 1) (ty := .int) (C := RX8) (T := TX8) (N := 44) hx hb hts inX8 tyX8 tyX8_ok nmX8 hown hK hP hD hS 0 rfl rfl 5 (by decide) (hts _ tw_978) (fun _ h9 => h9) rfl (by decide +kernel) rfl rfl (Nat.le_of_ble_eq_true rfl) dX8_feed_70 (fun H locs hP hD hS => ?_)
      have hP : va_P D classes [((a 0), .inr (8, [.ref (a 1), .ref (a 2), .ref (a 3), .ref (a 4), .ref (a 5), .int 1, .int (-1), .int 0, .long 0, .int 0, .int 0, .int 0, .int 0, .ref (a 14), .ref (a 15), .ref (a 16), .int 0, .ref (a 18), .ref (a 19), .ref (a 20), .ref (a 21), .ref (a 22), .ref (a 23), .int 0, .ref (a 25), .ref (a 26), .ref (a 27), .ref (a 28), .ref (a 29), .ref (a 30), .int 0, .ref (a 32), .ref (a 33), .ref (a 34), .int 0, .ref (a 36), .ref (a 37), .int 0, .int 0, .ref (a 40), .ref (a 41), .int 0, .ref (a 43), .ref (a 44)])), ((a 5), .inl (k 1, 240, .inl f_65))] H := hP
      have hD : va_D A [((a 0), .inr (8, [.ref (a 1), .ref (a 2), .ref (a 3), .ref (a 4), .ref (a 5), .int 1, .int (-1), .int 0, .long 0, .int 0, .int 0, .int 0, .int 0, .ref (a 14), .ref (a 15), .ref (a 16), .int 0, .ref (a 18), .ref (a 19), .ref (a 20), .ref (a 21), .ref (a 22), .ref (a 23), .int 0, .ref (a 25), .ref (a 26), .ref (a 27), .ref (a 28), .ref (a 29), .ref (a 30), .int 0, .ref (a 32), .ref (a 33), .ref (a 34), .int 0, .ref (a 36), .ref (a 37), .int 0, .int 0, .ref (a 40), .ref (a 41), .int 0, .ref (a 43), .ref (a 44)])), ((a 5), .inl (k 1, 240, .inl f_65))] := hD
      refine lv_iinc (v := 4) (lv' := [(4, .int 4), (0, .ref (a 0)), (1, .int 6), (2, .long p1)]) hx hb dX8_feed_73 hl (k := 0) rfl (by decide) (by decide) rfl (fun ls hl => ?_)
      refine lv_goto (tgt := 37) hx hb dX8_feed_76 (by decide) ?_
      refine lv_iload hx hb dX8_feed_37 (lv_at hl 0 rfl) ?_
      refine lv_if_lt (tgt := 79) hx hb dX8_feed_39 (by decide) (fun h => absurd h (by decide)) (fun _ => ?_)
      refine lv_aload_n hx hb dX8_feed_42 rfl (lv_at hl 1 rfl) ?_
      refine va_get (D := D) (ci := 8) (v := .ref (a 5)) (C := RX8) (T := TX8) (N := 44) hx hb hts inX8 hown hK hP 0 rfl rfl 4 (by decide) (hts _ tw_977) (fun _ h9 => h9) rfl dX8_feed_43 ?_
      refine lv_aload_n hx hb dX8_feed_46 rfl (lv_at hl 1 rfl) ?_
      refine va_get (D := D) (ci := 8) (v := .int 1) (C := RX8) (T := TX8) (N := 44) hx hb hts inX8 hown hK hP 0 rfl rfl 5 (by decide) (hts _ tw_978) (fun _ h9 => h9) rfl dX8_feed_47 ?_
      refine lv_lload_n hx hb dX8_feed_50 rfl (lv_at hl 3 rfl) ?_
      refine lv_bipush (v := 8) hx hb dX8_feed_51 (by decide) ?_
      refine lv_iload hx hb dX8_feed_53 (lv_at hl 0 rfl) ?_
      refine lv_imul hx hb dX8_feed_55 ?_
      refine lv_ti (y := 32) (by decide) ?_
      refine lv_lshr hx hb dX8_feed_56 rfl ?_
      refine lv_topl (fun x_66 ex_66 => ?_)
      refine lv_ldc2 hx hb hown (hts _ tw_1114) dX8_feed_57 ?_
      refine lv_tl (y := ((255 : Int32).toInt64)) (by decide) ?_
      refine lv_land hx hb dX8_feed_60 ?_
      refine lv_topl (fun x_67 ex_67 => ?_)
      refine lv_l2i hx hb dX8_feed_61 rfl ?_
      refine lv_topi (fun x_68 ex_68 => ?_)
      refine va_iast hx hb hK hP hD hS 1 1 rfl rfl (by unfold vp_in; decide) dX8_feed_62 (fun H locs hP hD hS => ?_)
      have hP : va_P D classes [((a 0), .inr (8, [.ref (a 1), .ref (a 2), .ref (a 3), .ref (a 4), .ref (a 5), .int 1, .int (-1), .int 0, .long 0, .int 0, .int 0, .int 0, .int 0, .ref (a 14), .ref (a 15), .ref (a 16), .int 0, .ref (a 18), .ref (a 19), .ref (a 20), .ref (a 21), .ref (a 22), .ref (a 23), .int 0, .ref (a 25), .ref (a 26), .ref (a 27), .ref (a 28), .ref (a 29), .ref (a 30), .int 0, .ref (a 32), .ref (a 33), .ref (a 34), .int 0, .ref (a 36), .ref (a 37), .int 0, .int 0, .ref (a 40), .ref (a 41), .int 0, .ref (a 43), .ref (a 44)])), ((a 5), .inl (k 1, 240, .inl (upd f_65 (Int32.toNatClampNeg 1) x_68)))] H := hP
      have hD : va_D A [((a 0), .inr (8, [.ref (a 1), .ref (a 2), .ref (a 3), .ref (a 4), .ref (a 5), .int 1, .int (-1), .int 0, .long 0, .int 0, .int 0, .int 0, .int 0, .ref (a 14), .ref (a 15), .ref (a 16), .int 0, .ref (a 18), .ref (a 19), .ref (a 20), .ref (a 21), .ref (a 22), .ref (a 23), .int 0, .ref (a 25), .ref (a 26), .ref (a 27), .ref (a 28), .ref (a 29), .ref (a 30), .int 0, .ref (a 32), .ref (a 33), .ref (a 34), .int 0, .ref (a 36), .ref (a 37), .int 0, .int 0, .ref (a 40), .ref (a 41), .int 0, .ref (a 43), .ref (a 44)])), ((a 5), .inl (k 1, 240, .inl (upd f_65 (Int32.toNatClampNeg 1) x_68)))] := hD
      generalize (upd f_65 (Int32.toNatClampNeg 1) x_68) = f_69 at hP hD
      refine lv_aload_n hx hb dX8_feed_63 rfl (lv_at hl 1 rfl) ?_
      refine lv_dup hx hb dX8_feed_64 rfl ?_
      refine va_get (D := D) (ci := 8) (v := .int 1) (C := RX8) (T := TX8) (N := 44) hx hb hts inX8 hown hK hP 0 rfl rfl 5 (by decide) (hts _ tw_978) (fun _ h9 => h9) rfl dX8_feed_65 ?_
      refine lv_iconst (v := 1) hx hb dX8_feed_68 (by decide) ?_
      refine lv_iadd hx hb dX8_feed_69 ?_
      refine lv_ti (y := 2) (by decide) ?_
      refine va_put (D := D) (ci := 8) (v := .int 2) (ty := .int) (C := RX8) (T := TX8) (N := 44) hx hb hts inX8 tyX8 tyX8_ok nmX8 hown hK hP hD hS 0 rfl rfl 5 (by decide) (hts _ tw_978) (fun _ h9 => h9) rfl (by decide +kernel) rfl rfl (Nat.le_of_ble_eq_true rfl) dX8_feed_70 (fun H locs hP hD hS => ?_)
      have hP : va_P D classes [((a 0), .inr (8, [.ref (a 1), .ref (a 2), .ref (a 3), .ref (a 4), .ref (a 5), .int 2, .int (-1), .int 0, .long 0, .int 0, .int 0, .int 0, .int 0, .ref (a 14), .ref (a 15), .ref (a 16), .int 0, .ref (a 18), .ref (a 19), .ref (a 20), .ref (a 21), .ref (a 22), .ref (a 23), .int 0, .ref (a 25), .ref (a 26), .ref (a 27), .ref (a 28), .ref (a 29), .ref (a 30), .int 0, .ref (a 32), .ref (a 33), .ref (a 34), .int 0, .ref (a 36), .ref (a 37), .int 0, .int 0, .ref (a 40), .ref (a 41), .int 0, .ref (a 43), .ref (a 44)])), ((a 5), .inl (k 1, 240, .inl f_69))] H := hP
      have hD : va_D A [((a 0), .inr (8, [.ref (a 1), .ref (a 2), .ref (a 3), .ref (a 4), .ref (a 5), .int 2, .int (-1), .int 0, .long 0, .int 0, .int 0, .int 0, .int 0, .ref (a 14), .ref (a 15), .ref (a 16), .int 0, .ref (a 18), .ref (a 19), .ref (a 20), .ref (a 21), .ref (a 22), .ref (a 23), .int 0, .ref (a 25), .ref (a 26), .ref (a 27), .ref (a 28), .ref (a 29), .ref (a 30), .int 0, .ref (a 32), .ref (a 33), .ref (a 34), .int 0, .ref (a 36), .ref (a 37), .int 0, .int 0, .ref (a 40), .ref (a 41), .int 0, .ref (a 43), .ref (a 44)])), ((a 5), .inl (k 1, 240, .inl f_69))] := hD
      refine lv_iinc (v := 3) (lv' := [(4, .int 3), (0, .ref (a 0)), (1, .int 6), (2, .long p1)]) hx hb dX8_feed_73 hl (k := 0) rfl (by decide) (by decide) rfl (fun ls hl => ?_)
      refine lv_goto (tgt := 37) hx hb dX8_feed_76 (by decide) ?_
      refine lv_iload hx hb dX8_feed_37 (lv_at hl 0 rfl) ?_
      refine lv_if_lt (tgt := 79) hx hb dX8_feed_39 (by decide) (fun h => absurd h (by decide)) (fun _ => ?_)
      refine lv_aload_n hx hb dX8_feed_42 rfl (lv_at hl 1 rfl) ?_
      refine va_get (D := D) (ci := 8) (v := .ref (a 5)) (C := RX8) (T := TX8) (N := 44) hx hb hts inX8 hown hK hP 0 rfl rfl 4 (by decide) (hts _ tw_977) (fun _ h9 => h9) rfl dX8_feed_43 ?_
      refine lv_aload_n hx hb dX8_feed_46 rfl (lv_at hl 1 rfl) ?_
      refine va_get (D := D) (ci := 8) (v := .int 2) (C := RX8) (T := TX8) (N := 44) hx hb hts inX8 hown hK hP 0 rfl rfl 5 (by decide) (hts _ tw_978) (fun _ h9 => h9) rfl dX8_feed_47 ?_
      refine lv_lload_n hx hb dX8_feed_50 rfl (lv_at hl 3 rfl) ?_
      refine lv_bipush (v := 8) hx hb dX8_feed_51 (by decide) ?_
      refine lv_iload hx hb dX8_feed_53 (lv_at hl 0 rfl) ?_
      refine lv_imul hx hb dX8_feed_55 ?_
      refine lv_ti (y := 24) (by decide) ?_
      refine lv_lshr hx hb dX8_feed_56 rfl ?_
      refine lv_topl (fun x_70 ex_70 => ?_)
      refine lv_ldc2 hx hb hown (hts _ tw_1114) dX8_feed_57 ?_
      refine lv_tl (y := ((255 : Int32).toInt64)) (by decide) ?_
      refine lv_land hx hb dX8_feed_60 ?_
      refine lv_topl (fun x_71 ex_71 => ?_)
      refine lv_l2i hx hb dX8_feed_61 rfl ?_
      refine lv_topi (fun x_72 ex_72 => ?_)
      refine va_iast hx hb hK hP hD hS 1 1 rfl rfl (by unfold vp_in; decide) dX8_feed_62 (fun H locs hP hD hS => ?_)
      have hP : va_P D classes [((a 0), .inr (8, [.ref (a 1), .ref (a 2), .ref (a 3), .ref (a 4), .ref (a 5), .int 2, .int (-1), .int 0, .long 0, .int 0, .int 0, .int 0, .int 0, .ref (a 14), .ref (a 15), .ref (a 16), .int 0, .ref (a 18), .ref (a 19), .ref (a 20), .ref (a 21), .ref (a 22), .ref (a 23), .int 0, .ref (a 25), .ref (a 26), .ref (a 27), .ref (a 28), .ref (a 29), .ref (a 30), .int 0, .ref (a 32), .ref (a 33), .ref (a 34), .int 0, .ref (a 36), .ref (a 37), .int 0, .int 0, .ref (a 40), .ref (a 41), .int 0, .ref (a 43), .ref (a 44)])), ((a 5), .inl (k 1, 240, .inl (upd f_69 (Int32.toNatClampNeg 2) x_72)))] H := hP
      have hD : va_D A [((a 0), .inr (8, [.ref (a 1), .ref (a 2), .ref (a 3), .ref (a 4), .ref (a 5), .int 2, .int (-1), .int 0, .long 0, .int 0, .int 0, .int 0, .int 0, .ref (a 14), .ref (a 15), .ref (a 16), .int 0, .ref (a 18), .ref (a 19), .ref (a 20), .ref (a 21), .ref (a 22), .ref (a 23), .int 0, .ref (a 25), .ref (a 26), .ref (a 27), .ref (a 28), .ref (a 29), .ref (a 30), .int 0, .ref (a 32), .ref (a 33), .ref (a 34), .int 0, .ref (a 36), .ref (a 37), .int 0, .int 0, .ref (a 40), .ref (a 41), .int 0, .ref (a 43), .ref (a 44)])), ((a 5), .inl (k 1, 240, .inl (upd f_69 (Int32.toNatClampNeg 2) x_72)))] := hD
      generalize (upd f_69 (Int32.toNatClampNeg 2) x_72) = f_73 at hP hD
      refine lv_aload_n hx hb dX8_feed_63 rfl (lv_at hl 1 rfl) ?_
      refine lv_dup hx hb dX8_feed_64 rfl ?_
      refine va_get (D := D) (ci := 8) (v := .int 2) (C := RX8) (T := TX8) (N := 44) hx hb hts inX8 hown hK hP 0 rfl rfl 5 (by decide) (hts _ tw_978) (fun _ h9 => h9) rfl dX8_feed_65 ?_
      refine lv_iconst (v := 1) hx hb dX8_feed_68 (by decide) ?_
      refine lv_iadd hx hb dX8_feed_69 ?_
      refine lv_ti (y := 3) (by decide) ?_
      refine va_put (D := D) (ci := 8) (v := .int 3) (ty := .int) (C := RX8) (T := TX8) (N := 44) hx hb hts inX8 tyX8 tyX8_ok nmX8 hown hK hP hD hS 0 rfl rfl 5 (by decide) (hts _ tw_978) (fun _ h9 => h9) rfl (by decide +kernel) rfl rfl (Nat.le_of_ble_eq_true rfl) dX8_feed_70 (fun H locs hP hD hS => ?_)
      have hP : va_P D classes [((a 0), .inr (8, [.ref (a 1), .ref (a 2), .ref (a 3), .ref (a 4), .ref (a 5), .int 3, .int (-1), .int 0, .long 0, .int 0, .int 0, .int 0, .int 0, .ref (a 14), .ref (a 15), .ref (a 16), .int 0, .ref (a 18), .ref (a 19), .ref (a 20), .ref (a 21), .ref (a 22), .ref (a 23), .int 0, .ref (a 25), .ref (a 26), .ref (a 27), .ref (a 28), .ref (a 29), .ref (a 30), .int 0, .ref (a 32), .ref (a 33), .ref (a 34), .int 0, .ref (a 36), .ref (a 37), .int 0, .int 0, .ref (a 40), .ref (a 41), .int 0, .ref (a 43), .ref (a 44)])), ((a 5), .inl (k 1, 240, .inl f_73))] H := hP
      have hD : va_D A [((a 0), .inr (8, [.ref (a 1), .ref (a 2), .ref (a 3), .ref (a 4), .ref (a 5), .int 3, .int (-1), .int 0, .long 0, .int 0, .int 0, .int 0, .int 0, .ref (a 14), .ref (a 15), .ref (a 16), .int 0, .ref (a 18), .ref (a 19), .ref (a 20), .ref (a 21), .ref (a 22), .ref (a 23), .int 0, .ref (a 25), .ref (a 26), .ref (a 27), .ref (a 28), .ref (a 29), .ref (a 30), .int 0, .ref (a 32), .ref (a 33), .ref (a 34), .int 0, .ref (a 36), .ref (a 37), .int 0, .int 0, .ref (a 40), .ref (a 41), .int 0, .ref (a 43), .ref (a 44)])), ((a 5), .inl (k 1, 240, .inl f_73))] := hD
      refine lv_iinc (v := 2) (lv' := [(4, .int 2), (0, .ref (a 0)), (1, .int 6), (2, .long p1)]) hx hb dX8_feed_73 hl (k := 0) rfl (by decide) (by decide) rfl (fun ls hl => ?_)
      refine lv_goto (tgt := 37) hx hb dX8_feed_76 (by decide) ?_
      refine lv_iload hx hb dX8_feed_37 (lv_at hl 0 rfl) ?_
      refine lv_if_lt (tgt := 79) hx hb dX8_feed_39 (by decide) (fun h => absurd h (by decide)) (fun _ => ?_)
      refine lv_aload_n hx hb dX8_feed_42 rfl (lv_at hl 1 rfl) ?_
      refine va_get (D := D) (ci := 8) (v := .ref (a 5)) (C := RX8) (T := TX8) (N := 44) hx hb hts inX8 hown hK hP 0 rfl rfl 4 (by decide) (hts _ tw_977) (fun _ h9 => h9) rfl dX8_feed_43 ?_
      refine lv_aload_n hx hb dX8_feed_46 rfl (lv_at hl 1 rfl) ?_
      refine va_get (D := D) (ci := 8) (v := .int 3) (C := RX8) (T := TX8) (N := 44) hx hb hts inX8 hown hK hP 0 rfl rfl 5 (by decide) (hts _ tw_978) (fun _ h9 => h9) rfl dX8_feed_47 ?_
      refine lv_lload_n hx hb dX8_feed_50 rfl (lv_at hl 3 rfl) ?_
      refine lv_bipush (v := 8) hx hb dX8_feed_51 (by decide) ?_
      refine lv_iload hx hb dX8_feed_53 (lv_at hl 0 rfl) ?_
      refine lv_imul hx hb dX8_feed_55 ?_
      refine lv_ti (y := 16) (by decide) ?_
      refine lv_lshr hx hb dX8_feed_56 rfl ?_
      refine lv_topl (fun x_74 ex_74 => ?_)
      refine lv_ldc2 hx hb hown (hts _ tw_1114) dX8_feed_57 ?_
      refine lv_tl (y := ((255 : Int32).toInt64)) (by decide) ?_
      refine lv_land hx hb dX8_feed_60 ?_
      refine lv_topl (fun x_75 ex_75 => ?_)
      refine lv_l2i hx hb dX8_feed_61 rfl ?_
      refine lv_topi (fun x_76 ex_76 => ?_)
      refine va_iast hx hb hK hP hD hS 1 1 rfl rfl (by unfold vp_in; decide) dX8_feed_62 (fun H locs hP hD hS => ?_)
      have hP : va_P D classes [((a 0), .inr (8, [.ref (a 1), .ref (a 2), .ref (a 3), .ref (a 4), .ref (a 5), .int 3, .int (-1), .int 0, .long 0, .int 0, .int 0, .int 0, .int 0, .ref (a 14), .ref (a 15), .ref (a 16), .int 0, .ref (a 18), .ref (a 19), .ref (a 20), .ref (a 21), .ref (a 22), .ref (a 23), .int 0, .ref (a 25), .ref (a 26), .ref (a 27), .ref (a 28), .ref (a 29), .ref (a 30), .int 0, .ref (a 32), .ref (a 33), .ref (a 34), .int 0, .ref (a 36), .ref (a 37), .int 0, .int 0, .ref (a 40), .ref (a 41), .int 0, .ref (a 43), .ref (a 44)])), ((a 5), .inl (k 1, 240, .inl (upd f_73 (Int32.toNatClampNeg 3) x_76)))] H := hP
      have hD : va_D A [((a 0), .inr (8, [.ref (a 1), .ref (a 2), .ref (a 3), .ref (a 4), .ref (a 5), .int 3, .int (-1), .int 0, .long 0, .int 0, .int 0, .int 0, .int 0, .ref (a 14), .ref (a 15), .ref (a 16), .int 0, .ref (a 18), .ref (a 19), .ref (a 20), .ref (a 21), .ref (a 22), .ref (a 23), .int 0, .ref (a 25), .ref (a 26), .ref (a 27), .ref (a 28), .ref (a 29), .ref (a 30), .int 0, .ref (a 32), .ref (a 33), .ref (a 34), .int 0, .ref (a 36), .ref (a 37), .int 0, .int 0, .ref (a 40), .ref (a 41), .int 0, .ref (a 43), .ref (a 44)])), ((a 5), .inl (k 1, 240, .inl (upd f_73 (Int32.toNatClampNeg 3) x_76)))] := hD
      generalize (upd f_73 (Int32.toNatClampNeg 3) x_76) = f_77 at hP hD
      refine lv_aload_n hx hb dX8_feed_63 rfl (lv_at hl 1 rfl) ?_
      refine lv_dup hx hb dX8_feed_64 rfl ?_
      refine va_get (D := D) (ci := 8) (v := .int 3) (C := RX8) (T := TX8) (N := 44) hx hb hts inX8 hown hK hP 0 rfl rfl 5 (by decide) (hts _ tw_978) (fun _ h9 => h9) rfl dX8_feed_65 ?_
      refine lv_iconst (v := 1) hx hb dX8_feed_68 (by decide) ?_
      refine lv_iadd hx hb dX8_feed_69 ?_
      refine lv_ti (y := 4) (by decide) ?_
      refine va_put (D := D) (ci := 8) (v := .int 4) (ty := .int) (C := RX8) (T := TX8) (N := 44) hx hb hts inX8 tyX8 tyX8_ok nmX8 hown hK hP hD hS 0 rfl rfl 5 (by decide) (hts _ tw_978) (fun _ h9 => h9) rfl (by decide +kernel) rfl rfl (Nat.le_of_ble_eq_true rfl) dX8_feed_70 (fun H locs hP hD hS => ?_)
      have hP : va_P D classes [((a 0), .inr (8, [.ref (a 1), .ref (a 2), .ref (a 3), .ref (a 4), .ref (a 5), .int 4, .int (-1), .int 0, .long 0, .int 0, .int 0, .int 0, .int 0, .ref (a 14), .ref (a 15), .ref (a 16), .int 0, .ref (a 18), .ref (a 19), .ref (a 20), .ref (a 21), .ref (a 22), .ref (a 23), .int 0, .ref (a 25), .ref (a 26), .ref (a 27), .ref (a 28), .ref (a 29), .ref (a 30), .int 0, .ref (a 32), .ref (a 33), .ref (a 34), .int 0, .ref (a 36), .ref (a 37), .int 0, .int 0, .ref (a 40), .ref (a 41), .int 0, .ref (a 43), .ref (a 44)])), ((a 5), .inl (k 1, 240, .inl f_77))] H := hP
      have hD : va_D A [((a 0), .inr (8, [.ref (a 1), .ref (a 2), .ref (a 3), .ref (a 4), .ref (a 5), .int 4, .int (-1), .int 0, .long 0, .int 0, .int 0, .int 0, .int 0, .ref (a 14), .ref (a 15), .ref (a 16), .int 0, .ref (a 18), .ref (a 19), .ref (a 20), .ref (a 21), .ref (a 22), .ref (a 23), .int 0, .ref (a 25), .ref (a 26), .ref (a 27), .ref (a 28), .ref (a 29), .ref (a 30), .int 0, .ref (a 32), .ref (a 33), .ref (a 34), .int 0, .ref (a 36), .ref (a 37), .int 0, .int 0, .ref (a 40), .ref (a 41), .int 0, .ref (a 43), .ref (a 44)])), ((a 5), .inl (k 1, 240, .inl f_77))] := hD
      refine lv_iinc (v := 1) (lv' := [(4, .int 1), (0, .ref (a 0)), (1, .int 6), (2, .long p1)]) hx hb dX8_feed_73 hl (k := 0) rfl (by decide) (by decide) rfl (fun ls hl => ?_)
      refine lv_goto (tgt := 37) hx hb dX8_feed_76 (by decide) ?_
      refine lv_iload hx hb dX8_feed_37 (lv_at hl 0 rfl) ?_
      refine lv_if_lt (tgt := 79) hx hb dX8_feed_39 (by decide) (fun h => absurd h (by decide)) (fun _ => ?_)
      refine lv_aload_n hx hb dX8_feed_42 rfl (lv_at hl 1 rfl) ?_
      refine va_get (D := D) (ci := 8) (v := .ref (a 5)) (C := RX8) (T := TX8) (N := 44) hx hb hts inX8 hown hK hP 0 rfl rfl 4 (by decide) (hts _ tw_977) (fun _ h9 => h9) rfl dX8_feed_43 ?_
      refine lv_aload_n hx hb dX8_feed_46 rfl (lv_at hl 1 rfl) ?_
      refine va_get (D := D) (ci := 8) (v := .int 4) (C := RX8) (T := TX8) (N := 44) hx hb hts inX8 hown hK hP 0 rfl rfl 5 (by decide) (hts _ tw_978) (fun _ h9 => h9) rfl dX8_feed_47 ?_
      refine lv_lload_n hx hb dX8_feed_50 rfl (lv_at hl 3 rfl) ?_
      refine lv_bipush (v := 8) hx hb dX8_feed_51 (by decide) ?_
      refine lv_iload hx hb dX8_feed_53 (lv_at hl 0 rfl) ?_
      refine lv_imul hx hb dX8_feed_55 ?_
      refine lv_ti (y := 8) (by decide) ?_
      refine lv_lshr hx hb dX8_feed_56 rfl ?_
      refine lv_topl (fun x_78 ex_78 => ?_)
      refine lv_ldc2 hx hb hown (hts _ tw_1114) dX8_feed_57 ?_
      refine lv_tl (y := ((255 : Int32).toInt64)) (by decide) ?_
      refine lv_land hx hb dX8_feed_60 ?_
      refine lv_topl (fun x_79 ex_79 => ?_)
      refine lv_l2i hx hb dX8_feed_61 rfl ?_
      refine lv_topi (fun x_80 ex_80 => ?_)
      refine va_iast hx hb hK hP hD hS 1 1 rfl rfl (by unfold vp_in; decide) dX8_feed_62 (fun H locs hP hD hS => ?_)
      have hP : va_P D classes [((a 0), .inr (8, [.ref (a 1), .ref (a 2), .ref (a 3), .ref (a 4), .ref (a 5), .int 4, .int (-1), .int 0, .long 0, .int 0, .int 0, .int 0, .int 0, .ref (a 14), .ref (a 15), .ref (a 16), .int 0, .ref (a 18), .ref (a 19), .ref (a 20), .ref (a 21), .ref (a 22), .ref (a 23), .int 0, .ref (a 25), .ref (a 26), .ref (a 27), .ref (a 28), .ref (a 29), .ref (a 30), .int 0, .ref (a 32), .ref (a 33), .ref (a 34), .int 0, .ref (a 36), .ref (a 37), .int 0, .int 0, .ref (a 40), .ref (a 41), .int 0, .ref (a 43), .ref (a 44)])), ((a 5), .inl (k 1, 240, .inl (upd f_77 (Int32.toNatClampNeg 4) x_80)))] H := hP
      have hD : va_D A [((a 0), .inr (8, [.ref (a 1), .ref (a 2), .ref (a 3), .ref (a 4), .ref (a 5), .int 4, .int (-1), .int 0, .long 0, .int 0, .int 0, .int 0, .int 0, .ref (a 14), .ref (a 15), .ref (a 16), .int 0, .ref (a 18), .ref (a 19), .ref (a 20), .ref (a 21), .ref (a 22), .ref (a 23), .int 0, .ref (a 25), .ref (a 26), .ref (a 27), .ref (a 28), .ref (a 29), .ref (a 30), .int 0, .ref (a 32), .ref (a 33), .ref (a 34), .int 0, .ref (a 36), .ref (a 37), .int 0, .int 0, .ref (a 40), .ref (a 41), .int 0, .ref (a 43), .ref (a 44)])), ((a 5), .inl (k 1, 240, .inl (upd f_77 (Int32.toNatClampNeg 4) x_80)))] := hD
      generalize (upd f_77 (Int32.toNatClampNeg 4) x_80) = f_81 at hP hD
      refine lv_aload_n hx hb dX8_feed_63 rfl (lv_at hl 1 rfl) ?_
      refine lv_dup hx hb dX8_feed_64 rfl ?_
      refine va_get (D := D) (ci := 8) (v := .int 4) (C := RX8) (T := TX8) (N := 44) hx hb hts inX8 hown hK hP 0 rfl rfl 5 (by decide) (hts _ tw_978) (fun _ h9 => h9) rfl dX8_feed_65 ?_
      refine lv_iconst (v := 1) hx hb dX8_feed_68 (by decide) ?_
      refine lv_iadd hx hb dX8_feed_69 ?_
      refine lv_ti (y := 5) (by decide) ?_
      refine va_put (D := D) (ci := 8) (v := .int 5) (ty := .int) (C := RX8) (T := TX8) (N := 44) hx hb hts inX8 tyX8 tyX8_ok nmX8 hown hK hP hD hS 0 rfl rfl 5 (by decide) (hts _ tw_978) (fun _ h9 => h9) rfl (by decide +kernel) rfl rfl (Nat.le_of_ble_eq_true rfl) dX8_feed_70 (fun H locs hP hD hS => ?_)
      have hP : va_P D classes [((a 0), .inr (8, [.ref (a 1), .ref (a 2), .ref (a 3), .ref (a 4), .ref (a 5), .int 5, .int (-1), .int 0, .long 0, .int 0, .int 0, .int 0, .int 0, .ref (a 14), .ref (a 15), .ref (a 16), .int 0, .ref (a 18), .ref (a 19), .ref (a 20), .ref (a 21), .ref (a 22), .ref (a 23), .int 0, .ref (a 25), .ref (a 26), .ref (a 27), .ref (a 28), .ref (a 29), .ref (a 30), .int 0, .ref (a 32), .ref (a 33), .ref (a 34), .int 0, .ref (a 36), .ref (a 37), .int 0, .int 0, .ref (a 40), .ref (a 41), .int 0, .ref (a 43), .ref (a 44)])), ((a 5), .inl (k 1, 240, .inl f_81))] H := hP
      have hD : va_D A [((a 0), .inr (8, [.ref (a 1), .ref (a 2), .ref (a 3), .ref (a 4), .ref (a 5), .int 5, .int (-1), .int 0, .long 0, .int 0, .int 0, .int 0, .int 0, .ref (a 14), .ref (a 15), .ref (a 16), .int 0, .ref (a 18), .ref (a 19), .ref (a 20), .ref (a 21), .ref (a 22), .ref (a 23), .int 0, .ref (a 25), .ref (a 26), .ref (a 27), .ref (a 28), .ref (a 29), .ref (a 30), .int 0, .ref (a 32), .ref (a 33), .ref (a 34), .int 0, .ref (a 36), .ref (a 37), .int 0, .int 0, .ref (a 40), .ref (a 41), .int 0, .ref (a 43), .ref (a 44)])), ((a 5), .inl (k 1, 240, .inl f_81))] := hD
      refine lv_iinc (v := 0) (lv' := [(4, .int 0), (0, .ref (a 0)), (1, .int 6), (2, .long p1)]) hx hb dX8_feed_73 hl (k := 0) rfl (by decide) (by decide) rfl (fun ls hl => ?_)
      refine lv_goto (tgt := 37) hx hb dX8_feed_76 (by decide) ?_
      refine lv_iload hx hb dX8_feed_37 (lv_at hl 0 rfl) ?_
      refine lv_if_lt (tgt := 79) hx hb dX8_feed_39 (by decide) (fun h => absurd h (by decide)) (fun _ => ?_)
      refine lv_aload_n hx hb dX8_feed_42 rfl (lv_at hl 1 rfl) ?_
      refine va_get (D := D) (ci := 8) (v := .ref (a 5)) (C := RX8) (T := TX8) (N := 44) hx hb hts inX8 hown hK hP 0 rfl rfl 4 (by decide) (hts _ tw_977) (fun _ h9 => h9) rfl dX8_feed_43 ?_
      refine lv_aload_n hx hb dX8_feed_46 rfl (lv_at hl 1 rfl) ?_
      refine va_get (D := D) (ci := 8) (v := .int 5) (C := RX8) (T := TX8) (N := 44) hx hb hts inX8 hown hK hP 0 rfl rfl 5 (by decide) (hts _ tw_978) (fun _ h9 => h9) rfl dX8_feed_47 ?_
      refine lv_lload_n hx hb dX8_feed_50 rfl (lv_at hl 3 rfl) ?_
      refine lv_bipush (v := 8) hx hb dX8_feed_51 (by decide) ?_
      refine lv_iload hx hb dX8_feed_53 (lv_at hl 0 rfl) ?_
      refine lv_imul hx hb dX8_feed_55 ?_
      refine lv_ti (y := 0) (by decide) ?_
      refine lv_lshr hx hb dX8_feed_56 rfl ?_
      refine lv_topl (fun x_82 ex_82 => ?_)
      refine lv_ldc2 hx hb hown (hts _ tw_1114) dX8_feed_57 ?_
      refine lv_tl (y := ((255 : Int32).toInt64)) (by decide) ?_
      refine lv_land hx hb dX8_feed_60 ?_
      refine lv_topl (fun x_83 ex_83 => ?_)
      refine lv_l2i hx hb dX8_feed_61 rfl ?_
      refine lv_topi (fun x_84 ex_84 => ?_)
      refine va_iast hx hb hK hP hD hS 1 1 rfl rfl (by unfold vp_in; decide) dX8_feed_62 (fun H locs hP hD hS => ?_)
      have hP : va_P D classes [((a 0), .inr (8, [.ref (a 1), .ref (a 2), .ref (a 3), .ref (a 4), .ref (a 5), .int 5, .int (-1), .int 0, .long 0, .int 0, .int 0, .int 0, .int 0, .ref (a 14), .ref (a 15), .ref (a 16), .int 0, .ref (a 18), .ref (a 19), .ref (a 20), .ref (a 21), .ref (a 22), .ref (a 23), .int 0, .ref (a 25), .ref (a 26), .ref (a 27), .ref (a 28), .ref (a 29), .ref (a 30), .int 0, .ref (a 32), .ref (a 33), .ref (a 34), .int 0, .ref (a 36), .ref (a 37), .int 0, .int 0, .ref (a 40), .ref (a 41), .int 0, .ref (a 43), .ref (a 44)])), ((a 5), .inl (k 1, 240, .inl (upd f_81 (Int32.toNatClampNeg 5) x_84)))] H := hP
      have hD : va_D A [((a 0), .inr (8, [.ref (a 1), .ref (a 2), .ref (a 3), .ref (a 4), .ref (a 5), .int 5, .int (-1), .int 0, .long 0, .int 0, .int 0, .int 0, .int 0, .ref (a 14), .ref (a 15), .ref (a 16), .int 0, .ref (a 18), .ref (a 19), .ref (a 20), .ref (a 21), .ref (a 22), .ref (a 23), .int 0, .ref (a 25), .ref (a 26), .ref (a 27), .ref (a 28), .ref (a 29), .ref (a 30), .int 0, .ref (a 32), .ref (a 33), .ref (a 34), .int 0, .ref (a 36), .ref (a 37), .int 0, .int 0, .ref (a 40), .ref (a 41), .int 0, .ref (a 43), .ref (a 44)])), ((a 5), .inl (k 1, 240, .inl (upd f_81 (Int32.toNatClampNeg 5) x_84)))] := hD
      generalize (upd f_81 (Int32.toNatClampNeg 5) x_84) = f_85 at hP hD
      refine lv_aload_n hx hb dX8_feed_63 rfl (lv_at hl 1 rfl) ?_
      refine lv_dup hx hb dX8_feed_64 rfl ?_
      refine va_get (D := D) (ci := 8) (v := .int 5) (C := RX8) (T := TX8) (N := 44) hx hb hts inX8 hown hK hP 0 rfl rfl 5 (by decide) (hts _ tw_978) (fun _ h9 => h9) rfl dX8_feed_65 ?_
      refine lv_iconst (v := 1) hx hb dX8_feed_68 (by decide) ?_
      refine lv_iadd hx hb dX8_feed_69 ?_
      refine lv_ti (y := 6) (by decide) ?_
      refine va_put (D := D) (ci := 8) (v := .int 6) (ty := .int) (C := RX8) (T := TX8) (N := 44) hx hb hts inX8 tyX8 tyX8_ok nmX8 hown hK hP hD hS 0 rfl rfl 5 (by decide) (hts _ tw_978) (fun _ h9 => h9) rfl (by decide +kernel) rfl rfl (Nat.le_of_ble_eq_true rfl) dX8_feed_70 (fun H locs hP hD hS => ?_)
      have hP : va_P D classes [((a 0), .inr (8, [.ref (a 1), .ref (a 2), .ref (a 3), .ref (a 4), .ref (a 5), .int 6, .int (-1), .int 0, .long 0, .int 0, .int 0, .int 0, .int 0, .ref (a 14), .ref (a 15), .ref (a 16), .int 0, .ref (a 18), .ref (a 19), .ref (a 20), .ref (a 21), .ref (a 22), .ref (a 23), .int 0, .ref (a 25), .ref (a 26), .ref (a 27), .ref (a 28), .ref (a 29), .ref (a 30), .int 0, .ref (a 32), .ref (a 33), .ref (a 34), .int 0, .ref (a 36), .ref (a 37), .int 0, .int 0, .ref (a 40), .ref (a 41), .int 0, .ref (a 43), .ref (a 44)])), ((a 5), .inl (k 1, 240, .inl f_85))] H := hP
      have hD : va_D A [((a 0), .inr (8, [.ref (a 1), .ref (a 2), .ref (a 3), .ref (a 4), .ref (a 5), .int 6, .int (-1), .int 0, .long 0, .int 0, .int 0, .int 0, .int 0, .ref (a 14), .ref (a 15), .ref (a 16), .int 0, .ref (a 18), .ref (a 19), .ref (a 20), .ref (a 21), .ref (a 22), .ref (a 23), .int 0, .ref (a 25), .ref (a 26), .ref (a 27), .ref (a 28), .ref (a 29), .ref (a 30), .int 0, .ref (a 32), .ref (a 33), .ref (a 34), .int 0, .ref (a 36), .ref (a 37), .int 0, .int 0, .ref (a 40), .ref (a 41), .int 0, .ref (a 43), .ref (a 44)])), ((a 5), .inl (k 1, 240, .inl f_85))] := hD
      refine lv_iinc (v := (-1)) (lv' := [(4, .int (-1)), (0, .ref (a 0)), (1, .int 6), (2, .long p1)]) hx hb dX8_feed_73 hl (k := 0) rfl (by decide) (by decide) rfl (fun ls hl => ?_)
      refine lv_goto (tgt := 37) hx hb dX8_feed_76 (by decide) ?_
      refine lv_iload hx hb dX8_feed_37 (lv_at hl 0 rfl) ?_
      refine lv_if_lt (tgt := 79) hx hb dX8_feed_39 (by decide) (fun _ => ?_) (fun h => absurd (by decide) h)
      refine lv_aload_n hx hb dX8_feed_79 rfl (lv_at hl 1 rfl) ?_
      refine va_get (D := D) (ci := 8) (v := .int 6) (C := RX8) (T := TX8) (N := 44) hx hb hts inX8 hown hK hP 0 rfl rfl 5 (by decide) (hts _ tw_978) (fun _ h9 => h9) rfl dX8_feed_80 ?_
      have hP9 := hP.sub (ws' := []) [] rfl
      have hD9 := hD.sub (ws' := []) [] (by decide) rfl
      exact W.iret (v := 6) hx hb hr (fun t ht hW => ⟨⟨6, (), rfl, ⟨fun _ => rfl, fun h => absurd ⟨by decide, by decide⟩ h⟩, by rw [ht]; exact hP9, hD9⟩, hS.F ht⟩) hS.2.2 dX8_feed_83
    · refine lv_aload_n hx hb dX8_feed_16 rfl (lv_at hl 0 rfl) ?_
      refine va_get (D := D) (ci := 8) (v := .int 0) (C := RX8) (T := TX8) (N := 44) hx hb hts inX8 hown hK hP 0 rfl rfl 5 (by decide) (hts _ tw_978) (fun _ h9 => h9) rfl dX8_feed_17 ?_
      refine lv_iload_n hx hb dX8_feed_20 rfl (lv_at hl 1 rfl) ?_
      refine lv_iadd hx hb dX8_feed_21 ?_
      refine lv_ti (y := 7) (by decide) ?_
      refine lv_sipush (v := 240) hx hb dX8_feed_22 (by decide) ?_
      refine lv_icmp_le (tgt := 32) hx hb dX8_feed_25 (by decide) (fun _ => ?_) (fun h => absurd (by decide) h)
      refine lv_iload_n hx hb dX8_feed_32 rfl (lv_at hl 1 rfl) ?_
      refine lv_iconst (v := 1) hx hb dX8_feed_33 (by decide) ?_
      refine lv_isub hx hb dX8_feed_34 ?_
      refine lv_ti (y := 6) (by decide) ?_
      refine lv_istore (lv' := [(4, .int 6), (0, .ref (a 0)), (1, .int 7), (2, .long p1)]) hx hb dX8_feed_35 hl (by decide) rfl (fun ls hl => ?_)
      refine lv_iload hx hb dX8_feed_37 (lv_at hl 0 rfl) ?_
      refine lv_if_lt (tgt := 79) hx hb dX8_feed_39 (by decide) (fun h => absurd h (by decide)) (fun _ => ?_)
      refine lv_aload_n hx hb dX8_feed_42 rfl (lv_at hl 1 rfl) ?_
      refine va_get (D := D) (ci := 8) (v := .ref (a 5)) (C := RX8) (T := TX8) (N := 44) hx hb hts inX8 hown hK hP 0 rfl rfl 4 (by decide) (hts _ tw_977) (fun _ h9 => h9) rfl dX8_feed_43 ?_
      refine lv_aload_n hx hb dX8_feed_46 rfl (lv_at hl 1 rfl) ?_
      refine va_get (D := D) (ci := 8) (v := .int 0) (C := RX8) (T := TX8) (N := 44) hx hb hts inX8 hown hK hP 0 rfl rfl 5 (by decide) (hts _ tw_978) (fun _ h9 => h9) rfl dX8_feed_47 ?_
      refine lv_lload_n hx hb dX8_feed_50 rfl (lv_at hl 3 rfl) ?_
      refine lv_bipush (v := 8) hx hb dX8_feed_51 (by decide) ?_
      refine lv_iload hx hb dX8_feed_53 (lv_at hl 0 rfl) ?_
      refine lv_imul hx hb dX8_feed_55 ?_
      refine lv_ti (y := 48) (by decide) ?_
      refine lv_lshr hx hb dX8_feed_56 rfl ?_
      refine lv_topl (fun x_86 ex_86 => ?_)
      refine lv_ldc2 hx hb hown (hts _ tw_1114) dX8_feed_57 ?_
      refine lv_tl (y := ((255 : Int32).toInt64)) (by decide) ?_
      refine lv_land hx hb dX8_feed_60 ?_
      refine lv_topl (fun x_87 ex_87 => ?_)
      refine lv_l2i hx hb dX8_feed_61 rfl ?_
      refine lv_topi (fun x_88 ex_88 => ?_)
      refine va_iast hx hb hK hP hD hS 1 1 rfl rfl (by unfold vp_in; decide) dX8_feed_62 (fun H locs hP hD hS => ?_)
      have hP : va_P D classes [((a 0), .inr (8, [.ref (a 1), .ref (a 2), .ref (a 3), .ref (a 4), .ref (a 5), .int 0, .int (-1), .int 0, .long 0, .int 0, .int 0, .int 0, .int 0, .ref (a 14), .ref (a 15), .ref (a 16), .int 0, .ref (a 18), .ref (a 19), .ref (a 20), .ref (a 21), .ref (a 22), .ref (a 23), .int 0, .ref (a 25), .ref (a 26), .ref (a 27), .ref (a 28), .ref (a 29), .ref (a 30), .int 0, .ref (a 32), .ref (a 33), .ref (a 34), .int 0, .ref (a 36), .ref (a 37), .int 0, .int 0, .ref (a 40), .ref (a 41), .int 0, .ref (a 43), .ref (a 44)])), ((a 5), .inl (k 1, 240, .inl (upd (fun _ => 0) (Int32.toNatClampNeg 0) x_88)))] H := hP
      have hD : va_D A [((a 0), .inr (8, [.ref (a 1), .ref (a 2), .ref (a 3), .ref (a 4), .ref (a 5), .int 0, .int (-1), .int 0, .long 0, .int 0, .int 0, .int 0, .int 0, .ref (a 14), .ref (a 15), .ref (a 16), .int 0, .ref (a 18), .ref (a 19), .ref (a 20), .ref (a 21), .ref (a 22), .ref (a 23), .int 0, .ref (a 25), .ref (a 26), .ref (a 27), .ref (a 28), .ref (a 29), .ref (a 30), .int 0, .ref (a 32), .ref (a 33), .ref (a 34), .int 0, .ref (a 36), .ref (a 37), .int 0, .int 0, .ref (a 40), .ref (a 41), .int 0, .ref (a 43), .ref (a 44)])), ((a 5), .inl (k 1, 240, .inl (upd (fun _ => 0) (Int32.toNatClampNeg 0) x_88)))] := hD
      generalize (upd (fun _ => 0) (Int32.toNatClampNeg 0) x_88) = f_89 at hP hD
      refine lv_aload_n hx hb dX8_feed_63 rfl (lv_at hl 1 rfl) ?_
      refine lv_dup hx hb dX8_feed_64 rfl ?_
      refine va_get (D := D) (ci := 8) (v := .int 0) (C := RX8) (T := TX8) (N := 44) hx hb hts inX8 hown hK hP 0 rfl rfl 5 (by decide) (hts _ tw_978) (fun _ h9 => h9) rfl dX8_feed_65 ?_
      refine lv_iconst (v := 1) hx hb dX8_feed_68 (by decide) ?_
      refine lv_iadd hx hb dX8_feed_69 ?_
      refine lv_ti (y := 1) (by decide) ?_
      refine va_put (D := D) (ci := 8) (v := .int 1) (ty := .int) (C := RX8) (T := TX8) (N := 44) hx hb hts inX8 tyX8 tyX8_ok nmX8 hown hK hP hD hS 0 rfl rfl 5 (by decide) (hts _ tw_978) (fun _ h9 => h9) rfl (by decide +kernel) rfl rfl (Nat.le_of_ble_eq_true rfl) dX8_feed_70 (fun H locs hP hD hS => ?_)
      have hP : va_P D classes [((a 0), .inr (8, [.ref (a 1), .ref (a 2), .ref (a 3), .ref (a 4), .ref (a 5), .int 1, .int (-1), .int 0, .long 0, .int 0, .int 0, .int 0, .int 0, .ref (a 14), .ref (a 15), .ref (a 16), .int 0, .ref (a 18), .ref (a 19), .ref (a 20), .ref (a 21), .ref (a 22), .ref (a 23), .int 0, .ref (a 25), .ref (a 26), .ref (a 27), .ref (a 28), .ref (a 29), .ref (a 30), .int 0, .ref (a 32), .ref (a 33), .ref (a 34), .int 0, .ref (a 36), .ref (a 37), .int 0, .int 0, .ref (a 40), .ref (a 41), .int 0, .ref (a 43), .ref (a 44)])), ((a 5), .inl (k 1, 240, .inl f_89))] H := hP
      have hD : va_D A [((a 0), .inr (8, [.ref (a 1), .ref (a 2), .ref (a 3), .ref (a 4), .ref (a 5), .int 1, .int (-1), .int 0, .long 0, .int 0, .int 0, .int 0, .int 0, .ref (a 14), .ref (a 15), .ref (a 16), .int 0, .ref (a 18), .ref (a 19), .ref (a 20), .ref (a 21), .ref (a 22), .ref (a 23), .int 0, .ref (a 25), .ref (a 26), .ref (a 27), .ref (a 28), .ref (a 29), .ref (a 30), .int 0, .ref (a 32), .ref (a 33), .ref (a 34), .int 0, .ref (a 36), .ref (a 37), .int 0, .int 0, .ref (a 40), .ref (a 41), .int 0, .ref (a 43), .ref (a 44)])), ((a 5), .inl (k 1, 240, .inl f_89))] := hD
      refine lv_iinc (v := 5) (lv' := [(4, .int 5), (0, .ref (a 0)), (1, .int 7), (2, .long p1)]) hx hb dX8_feed_73 hl (k := 0) rfl (by decide) (by decide) rfl (fun ls hl => ?_)
      refine lv_goto (tgt := 37) hx hb dX8_feed_76 (by decide) ?_
      refine lv_iload hx hb dX8_feed_37 (lv_at hl 0 rfl) ?_
      refine lv_if_lt (tgt := 79) hx hb dX8_feed_39 (by decide) (fun h => absurd h (by decide)) (fun _ => ?_)
      refine lv_aload_n hx hb dX8_feed_42 rfl (lv_at hl 1 rfl) ?_
      refine va_get (D := D) (ci := 8) (v := .ref (a 5)) (C := RX8) (T := TX8) (N := 44) hx hb hts inX8 hown hK hP 0 rfl rfl 4 (by decide) (hts _ tw_977) (fun _ h9 => h9) rfl dX8_feed_43 ?_
      refine lv_aload_n hx hb dX8_feed_46 rfl (lv_at hl 1 rfl) ?_
      refine va_get (D := D) (ci := 8) (v := .int 1) (C := RX8) (T := TX8) (N := 44) hx hb hts inX8 hown hK hP 0 rfl rfl 5 (by decide) (hts _ tw_978) (fun _ h9 => h9) rfl dX8_feed_47 ?_
      refine lv_lload_n hx hb dX8_feed_50 rfl (lv_at hl 3 rfl) ?_
      refine lv_bipush (v := 8) hx hb dX8_feed_51 (by decide) ?_
      refine lv_iload hx hb dX8_feed_53 (lv_at hl 0 rfl) ?_
      refine lv_imul hx hb dX8_feed_55 ?_
      refine lv_ti (y := 40) (by decide) ?_
      refine lv_lshr hx hb dX8_feed_56 rfl ?_
      refine lv_topl (fun x_90 ex_90 => ?_)
      refine lv_ldc2 hx hb hown (hts _ tw_1114) dX8_feed_57 ?_
      refine lv_tl (y := ((255 : Int32).toInt64)) (by decide) ?_
      refine lv_land hx hb dX8_feed_60 ?_
      refine lv_topl (fun x_91 ex_91 => ?_)
      refine lv_l2i hx hb dX8_feed_61 rfl ?_
      refine lv_topi (fun x_92 ex_92 => ?_)
      refine va_iast hx hb hK hP hD hS 1 1 rfl rfl (by unfold vp_in; decide) dX8_feed_62 (fun H locs hP hD hS => ?_)
      have hP : va_P D classes [((a 0), .inr (8, [.ref (a 1), .ref (a 2), .ref (a 3), .ref (a 4), .ref (a 5), .int 1, .int (-1), .int 0, .long 0, .int 0, .int 0, .int 0, .int 0, .ref (a 14), .ref (a 15), .ref (a 16), .int 0, .ref (a 18), .ref (a 19), .ref (a 20), .ref (a 21), .ref (a 22), .ref (a 23), .int 0, .ref (a 25), .ref (a 26), .ref (a 27), .ref (a 28), .ref (a 29), .ref (a 30), .int 0, .ref (a 32), .ref (a 33), .ref (a 34), .int 0, .ref (a 36), .ref (a 37), .int 0, .int 0, .ref (a 40), .ref (a 41), .int 0, .ref (a 43), .ref (a 44)])), ((a 5), .inl (k 1, 240, .inl (upd f_89 (Int32.toNatClampNeg 1) x_92)))] H := hP
      have hD : va_D A [((a 0), .inr (8, [.ref (a 1), .ref (a 2), .ref (a 3), .ref (a 4), .ref (a 5), .int 1, .int (-1), .int 0, .long 0, .int 0, .int 0, .int 0, .int 0, .ref (a 14), .ref (a 15), .ref (a 16), .int 0, .ref (a 18), .ref (a 19), .ref (a 20), .ref (a 21), .ref (a 22), .ref (a 23), .int 0, .ref (a 25), .ref (a 26), .ref (a 27), .ref (a 28), .ref (a 29), .ref (a 30), .int 0, .ref (a 32), .ref (a 33), .ref (a 34), .int 0, .ref (a 36), .ref (a 37), .int 0, .int 0, .ref (a 40), .ref (a 41), .int 0, .ref (a 43), .ref (a 44)])), ((a 5), .inl (k 1, 240, .inl (upd f_89 (Int32.toNatClampNeg 1) x_92)))] := hD
      generalize (upd f_89 (Int32.toNatClampNeg 1) x_92) = f_93 at hP hD
      refine lv_aload_n hx hb dX8_feed_63 rfl (lv_at hl 1 rfl) ?_
      refine lv_dup hx hb dX8_feed_64 rfl ?_
      refine va_get (D := D) (ci := 8) (v := .int 1) (C := RX8) (T := TX8) (N := 44) hx hb hts inX8 hown hK hP 0 rfl rfl 5 (by decide) (hts _ tw_978) (fun _ h9 => h9) rfl dX8_feed_65 ?_
      refine lv_iconst (v := 1) hx hb dX8_feed_68 (by decide) ?_
      refine lv_iadd hx hb dX8_feed_69 ?_
      refine lv_ti (y := 2) (by decide) ?_
      refine va_put (D := D) (ci := 8) (v := .int 2) (ty := .int) (C := RX8) (T := TX8) (N := 44) hx hb hts inX8 tyX8 tyX8_ok nmX8 hown hK hP hD hS 0 rfl rfl 5 (by decide) (hts _ tw_978) (fun _ h9 => h9) rfl (by decide +kernel) rfl rfl (Nat.le_of_ble_eq_true rfl) dX8_feed_70 (fun H locs hP hD hS => ?_)
      have hP : va_P D classes [((a 0), .inr (8, [.ref (a 1), .ref (a 2), .ref (a 3), .ref (a 4), .ref (a 5), .int 2, .int (-1), .int 0, .long 0, .int 0, .int 0, .int 0, .int 0, .ref (a 14), .ref (a 15), .ref (a 16), .int 0, .ref (a 18), .ref (a 19), .ref (a 20), .ref (a 21), .ref (a 22), .ref (a 23), .int 0, .ref (a 25), .ref (a 26), .ref (a 27), .ref (a 28), .ref (a 29), .ref (a 30), .int 0, .ref (a 32), .ref (a 33), .ref (a 34), .int 0, .ref (a 36), .ref (a 37), .int 0, .int 0, .ref (a 40), .ref (a 41), .int 0, .ref (a 43), .ref (a 44)])), ((a 5), .inl (k 1, 240, .inl f_93))] H := hP
      have hD : va_D A [((a 0), .inr (8, [.ref (a 1), .ref (a 2), .ref (a 3), .ref (a 4), .ref (a 5), .int 2, .int (-1), .int 0, .long 0, .int 0, .int 0, .int 0, .int 0, .ref (a 14), .ref (a 15), .ref (a 16), .int 0, .ref (a 18), .ref (a 19), .ref (a 20), .ref (a 21), .ref (a 22), .ref (a 23), .int 0, .ref (a 25), .ref (a 26), .ref (a 27), .ref (a 28), .ref (a 29), .ref (a 30), .int 0, .ref (a 32), .ref (a 33), .ref (a 34), .int 0, .ref (a 36), .ref (a 37), .int 0, .int 0, .ref (a 40), .ref (a 41), .int 0, .ref (a 43), .ref (a 44)])), ((a 5), .inl (k 1, 240, .inl f_93))] := hD
      refine lv_iinc (v := 4) (lv' := [(4, .int 4), (0, .ref (a 0)), (1, .int 7), (2, .long p1)]) hx hb dX8_feed_73 hl (k := 0) rfl (by decide) (by decide) rfl (fun ls hl => ?_)
      refine lv_goto (tgt := 37) hx hb dX8_feed_76 (by decide) ?_
      refine lv_iload hx hb dX8_feed_37 (lv_at hl 0 rfl) ?_
      refine lv_if_lt (tgt := 79) hx hb dX8_feed_39 (by decide) (fun h => absurd h (by decide)) (fun _ => ?_)
      refine lv_aload_n hx hb dX8_feed_42 rfl (lv_at hl 1 rfl) ?_
      refine va_get (D := D) (ci := 8) (v := .ref (a 5)) (C := RX8) (T := TX8) (N := 44) hx hb hts inX8 hown hK hP 0 rfl rfl 4 (by decide) (hts _ tw_977) (fun _ h9 => h9) rfl dX8_feed_43 ?_
      refine lv_aload_n hx hb dX8_feed_46 rfl (lv_at hl 1 rfl) ?_
      refine va_get (D := D) (ci := 8) (v := .int 2) (C := RX8) (T := TX8) (N := 44) hx hb hts inX8 hown hK hP 0 rfl rfl 5 (by decide) (hts _ tw_978) (fun _ h9 => h9) rfl dX8_feed_47 ?_
      refine lv_lload_n hx hb dX8_feed_50 rfl (lv_at hl 3 rfl) ?_
      refine lv_bipush (v := 8) hx hb dX8_feed_51 (by decide) ?_
      refine lv_iload hx hb dX8_feed_53 (lv_at hl 0 rfl) ?_
      refine lv_imul hx hb dX8_feed_55 ?_
      refine lv_ti (y := 32) (by decide) ?_
      refine lv_lshr hx hb dX8_feed_56 rfl ?_
      refine lv_topl (fun x_94 ex_94 => ?_)
      refine lv_ldc2 hx hb hown (hts _ tw_1114) dX8_feed_57 ?_
      refine lv_tl (y := ((255 : Int32).toInt64)) (by decide) ?_
      refine lv_land hx hb dX8_feed_60 ?_
      refine lv_topl (fun x_95 ex_95 => ?_)
      refine lv_l2i hx hb dX8_feed_61 rfl ?_
      refine lv_topi (fun x_96 ex_96 => ?_)
      refine va_iast hx hb hK hP hD hS 1 1 rfl rfl (by unfold vp_in; decide) dX8_feed_62 (fun H locs hP hD hS => ?_)
      have hP : va_P D classes [((a 0), .inr (8, [.ref (a 1), .ref (a 2), .ref (a 3), .ref (a 4), .ref (a 5), .int 2, .int (-1), .int 0, .long 0, .int 0, .int 0, .int 0, .int 0, .ref (a 14), .ref (a 15), .ref (a 16), .int 0, .ref (a 18), .ref (a 19), .ref (a 20), .ref (a 21), .ref (a 22), .ref (a 23), .int 0, .ref (a 25), .ref (a 26), .ref (a 27), .ref (a 28), .ref (a 29), .ref (a 30), .int 0, .ref (a 32), .ref (a 33), .ref (a 34), .int 0, .ref (a 36), .ref (a 37), .int 0, .int 0, .ref (a 40), .ref (a 41), .int 0, .ref (a 43), .ref (a 44)])), ((a 5), .inl (k 1, 240, .inl (upd f_93 (Int32.toNatClampNeg 2) x_96)))] H := hP
      have hD : va_D A [((a 0), .inr (8, [.ref (a 1), .ref (a 2), .ref (a 3), .ref (a 4), .ref (a 5), .int 2, .int (-1), .int 0, .long 0, .int 0, .int 0, .int 0, .int 0, .ref (a 14), .ref (a 15), .ref (a 16), .int 0, .ref (a 18), .ref (a 19), .ref (a 20), .ref (a 21), .ref (a 22), .ref (a 23), .int 0, .ref (a 25), .ref (a 26), .ref (a 27), .ref (a 28), .ref (a 29), .ref (a 30), .int 0, .ref (a 32), .ref (a 33), .ref (a 34), .int 0, .ref (a 36), .ref (a 37), .int 0, .int 0, .ref (a 40), .ref (a 41), .int 0, .ref (a 43), .ref (a 44)])), ((a 5), .inl (k 1, 240, .inl (upd f_93 (Int32.toNatClampNeg 2) x_96)))] := hD
      generalize (upd f_93 (Int32.toNatClampNeg 2) x_96) = f_97 at hP hD
      refine lv_aload_n hx hb dX8_feed_63 rfl (lv_at hl 1 rfl) ?_
      refine lv_dup hx hb dX8_feed_64 rfl ?_
      refine va_get (D := D) (ci := 8) (v := .int 2) (C := RX8) (T := TX8) (N := 44) hx hb hts inX8 hown hK hP 0 rfl rfl 5 (by decide) (hts _ tw_978) (fun _ h9 => h9) rfl dX8_feed_65 ?_
      refine lv_iconst (v := 1) hx hb dX8_feed_68 (by decide) ?_
      refine lv_iadd hx hb dX8_feed_69 ?_
      refine lv_ti (y := 3) (by decide) ?_
      refine va_put (D := D) (ci := 8) (v := .int 3) (ty := .int) (C := RX8) (T := TX8) (N := 44) hx hb hts inX8 tyX8 tyX8_ok nmX8 hown hK hP hD hS 0 rfl rfl 5 (by decide) (hts _ tw_978) (fun _ h9 => h9) rfl (by decide +kernel) rfl rfl (Nat.le_of_ble_eq_true rfl) dX8_feed_70 (fun H locs hP hD hS => ?_)
      have hP : va_P D classes [((a 0), .inr (8, [.ref (a 1), .ref (a 2), .ref (a 3), .ref (a 4), .ref (a 5), .int 3, .int (-1), .int 0, .long 0, .int 0, .int 0, .int 0, .int 0, .ref (a 14), .ref (a 15), .ref (a 16), .int 0, .ref (a 18), .ref (a 19), .ref (a 20), .ref (a 21), .ref (a 22), .ref (a 23), .int 0, .ref (a 25), .ref (a 26), .ref (a 27), .ref (a 28), .ref (a 29), .ref (a 30), .int 0, .ref (a 32), .ref (a 33), .ref (a 34), .int 0, .ref (a 36), .ref (a 37), .int 0, .int 0, .ref (a 40), .ref (a 41), .int 0, .ref (a 43), .ref (a 44)])), ((a 5), .inl (k 1, 240, .inl f_97))] H := hP
      have hD : va_D A [((a 0), .inr (8, [.ref (a 1), .ref (a 2), .ref (a 3), .ref (a 4), .ref (a 5), .int 3, .int (-1), .int 0, .long 0, .int 0, .int 0, .int 0, .int 0, .ref (a 14), .ref (a 15), .ref (a 16), .int 0, .ref (a 18), .ref (a 19), .ref (a 20), .ref (a 21), .ref (a 22), .ref (a 23), .int 0, .ref (a 25), .ref (a 26), .ref (a 27), .ref (a 28), .ref (a 29), .ref (a 30), .int 0, .ref (a 32), .ref (a 33), .ref (a 34), .int 0, .ref (a 36), .ref (a 37), .int 0, .int 0, .ref (a 40), .ref (a 41), .int 0, .ref (a 43), .ref (a 44)])), ((a 5), .inl (k 1, 240, .inl f_97))] := hD
      refine lv_iinc (v := 3) (lv' := [(4, .int 3), (0, .ref (a 0)), (1, .int 7), (2, .long p1)]) hx hb dX8_feed_73 hl (k := 0) rfl (by decide) (by decide) rfl (fun ls hl => ?_)
      refine lv_goto (tgt := 37) hx hb dX8_feed_76 (by decide) ?_
      refine lv_iload hx hb dX8_feed_37 (lv_at hl 0 rfl) ?_
      refine lv_if_lt (tgt := 79) hx hb dX8_feed_39 (by decide) (fun h => absurd h (by decide)) (fun _ => ?_)
      refine lv_aload_n hx hb dX8_feed_42 rfl (lv_at hl 1 rfl) ?_
      refine va_get (D := D) (ci := 8) (v := .ref (a 5)) (C := RX8) (T := TX8) (N := 44) hx hb hts inX8 hown hK hP 0 rfl rfl 4 (by decide) (hts _ tw_977) (fun _ h9 => h9) rfl dX8_feed_43 ?_
      refine lv_aload_n hx hb dX8_feed_46 rfl (lv_at hl 1 rfl) ?_
      refine va_get (D := D) (ci := 8) (v := .int 3) (C := RX8) (T := TX8) (N := 44) hx hb hts inX8 hown hK hP 0 rfl rfl 5 (by decide) (hts _ tw_978) (fun _ h9 => h9) rfl dX8_feed_47 ?_
      refine lv_lload_n hx hb dX8_feed_50 rfl (lv_at hl 3 rfl) ?_
      refine lv_bipush (v := 8) hx hb dX8_feed_51 (by decide) ?_
      refine lv_iload hx hb dX8_feed_53 (lv_at hl 0 rfl) ?_
      refine lv_imul hx hb dX8_feed_55 ?_
      refine lv_ti (y := 24) (by decide) ?_
      refine lv_lshr hx hb dX8_feed_56 rfl ?_
      refine lv_topl (fun x_98 ex_98 => ?_)
      refine lv_ldc2 hx hb hown (hts _ tw_1114) dX8_feed_57 ?_
      refine lv_tl (y := ((255 : Int32).toInt64)) (by decide) ?_
      refine lv_land hx hb dX8_feed_60 ?_
      refine lv_topl (fun x_99 ex_99 => ?_)
      refine lv_l2i hx hb dX8_feed_61 rfl ?_
      refine lv_topi (fun x_100 ex_100 => ?_)
      refine va_iast hx hb hK hP hD hS 1 1 rfl rfl (by unfold vp_in; decide) dX8_feed_62 (fun H locs hP hD hS => ?_)
      have hP : va_P D classes [((a 0), .inr (8, [.ref (a 1), .ref (a 2), .ref (a 3), .ref (a 4), .ref (a 5), .int 3, .int (-1), .int 0, .long 0, .int 0, .int 0, .int 0, .int 0, .ref (a 14), .ref (a 15), .ref (a 16), .int 0, .ref (a 18), .ref (a 19), .ref (a 20), .ref (a 21), .ref (a 22), .ref (a 23), .int 0, .ref (a 25), .ref (a 26), .ref (a 27), .ref (a 28), .ref (a 29), .ref (a 30), .int 0, .ref (a 32), .ref (a 33), .ref (a 34), .int 0, .ref (a 36), .ref (a 37), .int 0, .int 0, .ref (a 40), .ref (a 41), .int 0, .ref (a 43), .ref (a 44)])), ((a 5), .inl (k 1, 240, .inl (upd f_97 (Int32.toNatClampNeg 3) x_100)))] H := hP
      have hD : va_D A [((a 0), .inr (8, [.ref (a 1), .ref (a 2), .ref (a 3), .ref (a 4), .ref (a 5), .int 3, .int (-1), .int 0, .long 0, .int 0, .int 0, .int 0, .int 0, .ref (a 14), .ref (a 15), .ref (a 16), .int 0, .ref (a 18), .ref (a 19), .ref (a 20), .ref (a 21), .ref (a 22), .ref (a 23), .int 0, .ref (a 25), .ref (a 26), .ref (a 27), .ref (a 28), .ref (a 29), .ref (a 30), .int 0, .ref (a 32), .ref (a 33), .ref (a 34), .int 0, .ref (a 36), .ref (a 37), .int 0, .int 0, .ref (a 40), .ref (a 41), .int 0, .ref (a 43), .ref (a 44)])), ((a 5), .inl (k 1, 240, .inl (upd f_97 (Int32.toNatClampNeg 3) x_100)))] := hD
      generalize (upd f_97 (Int32.toNatClampNeg 3) x_100) = f_101 at hP hD
      refine lv_aload_n hx hb dX8_feed_63 rfl (lv_at hl 1 rfl) ?_
      refine lv_dup hx hb dX8_feed_64 rfl ?_
      refine va_get (D := D) (ci := 8) (v := .int 3) (C := RX8) (T := TX8) (N := 44) hx hb hts inX8 hown hK hP 0 rfl rfl 5 (by decide) (hts _ tw_978) (fun _ h9 => h9) rfl dX8_feed_65 ?_
      refine lv_iconst (v := 1) hx hb dX8_feed_68 (by decide) ?_
      refine lv_iadd hx hb dX8_feed_69 ?_
      refine lv_ti (y := 4) (by decide) ?_
      refine va_put (D := D) (ci := 8) (v := .int 4) (ty := .int) (C := RX8) (T := TX8) (N := 44) hx hb hts inX8 tyX8 tyX8_ok nmX8 hown hK hP hD hS 0 rfl rfl 5 (by decide) (hts _ tw_978) (fun _ h9 => h9) rfl (by decide +kernel) rfl rfl (Nat.le_of_ble_eq_true rfl) dX8_feed_70 (fun H locs hP hD hS => ?_)
      have hP : va_P D classes [((a 0), .inr (8, [.ref (a 1), .ref (a 2), .ref (a 3), .ref (a 4), .ref (a 5), .int 4, .int (-1), .int 0, .long 0, .int 0, .int 0, .int 0, .int 0, .ref (a 14), .ref (a 15), .ref (a 16), .int 0, .ref (a 18), .ref (a 19), .ref (a 20), .ref (a 21), .ref (a 22), .ref (a 23), .int 0, .ref (a 25), .ref (a 26), .ref (a 27), .ref (a 28), .ref (a 29), .ref (a 30), .int 0, .ref (a 32), .ref (a 33), .ref (a 34), .int 0, .ref (a 36), .ref (a 37), .int 0, .int 0, .ref (a 40), .ref (a 41), .int 0, .ref (a 43), .ref (a 44)])), ((a 5), .inl (k 1, 240, .inl f_101))] H := hP
      have hD : va_D A [((a 0), .inr (8, [.ref (a 1), .ref (a 2), .ref (a 3), .ref (a 4), .ref (a 5), .int 4, .int (-1), .int 0, .long 0, .int 0, .int 0, .int 0, .int 0, .ref (a 14), .ref (a 15), .ref (a 16), .int 0, .ref (a 18), .ref (a 19), .ref (a 20), .ref (a 21), .ref (a 22), .ref (a 23), .int 0, .ref (a 25), .ref (a 26), .ref (a 27), .ref (a 28), .ref (a 29), .ref (a 30), .int 0, .ref (a 32), .ref (a 33), .ref (a 34), .int 0, .ref (a 36), .ref (a 37), .int 0, .int 0, .ref (a 40), .ref (a 41), .int 0, .ref (a 43), .ref (a 44)])), ((a 5), .inl (k 1, 240, .inl f_101))] := hD
      refine lv_iinc (v := 2) (lv' := [(4, .int 2), (0, .ref (a 0)), (1, .int 7), (2, .long p1)]) hx hb dX8_feed_73 hl (k := 0) rfl (by decide) (by decide) rfl (fun ls hl => ?_)
      refine lv_goto (tgt := 37) hx hb dX8_feed_76 (by decide) ?_
      refine lv_iload hx hb dX8_feed_37 (lv_at hl 0 rfl) ?_
      refine lv_if_lt (tgt := 79) hx hb dX8_feed_39 (by decide) (fun h => absurd h (by decide)) (fun _ => ?_)
      refine lv_aload_n hx hb dX8_feed_42 rfl (lv_at hl 1 rfl) ?_
      refine va_get (D := D) (ci := 8) (v := .ref (a 5)) (C := RX8) (T := TX8) (N := 44) hx hb hts inX8 hown hK hP 0 rfl rfl 4 (by decide) (hts _ tw_977) (fun _ h9 => h9) rfl dX8_feed_43 ?_
      refine lv_aload_n hx hb dX8_feed_46 rfl (lv_at hl 1 rfl) ?_
      refine va_get (D := D) (ci := 8) (v := .int 4) (C := RX8) (T := TX8) (N := 44) hx hb hts inX8 hown hK hP 0 rfl rfl 5 (by decide) (hts _ tw_978) (fun _ h9 => h9) rfl dX8_feed_47 ?_
      refine lv_lload_n hx hb dX8_feed_50 rfl (lv_at hl 3 rfl) ?_
      refine lv_bipush (v := 8) hx hb dX8_feed_51 (by decide) ?_
      refine lv_iload hx hb dX8_feed_53 (lv_at hl 0 rfl) ?_
      refine lv_imul hx hb dX8_feed_55 ?_
      refine lv_ti (y := 16) (by decide) ?_
      refine lv_lshr hx hb dX8_feed_56 rfl ?_
      refine lv_topl (fun x_102 ex_102 => ?_)
      refine lv_ldc2 hx hb hown (hts _ tw_1114) dX8_feed_57 ?_
      refine lv_tl (y := ((255 : Int32).toInt64)) (by decide) ?_
      refine lv_land hx hb dX8_feed_60 ?_
      refine lv_topl (fun x_103 ex_103 => ?_)
      refine lv_l2i hx hb dX8_feed_61 rfl ?_
      refine lv_topi (fun x_104 ex_104 => ?_)
      refine va_iast hx hb hK hP hD hS 1 1 rfl rfl (by unfold vp_in; decide) dX8_feed_62 (fun H locs hP hD hS => ?_)
      have hP : va_P D classes [((a 0), .inr (8, [.ref (a 1), .ref (a 2), .ref (a 3), .ref (a 4), .ref (a 5), .int 4, .int (-1), .int 0, .long 0, .int 0, .int 0, .int 0, .int 0, .ref (a 14), .ref (a 15), .ref (a 16), .int 0, .ref (a 18), .ref (a 19), .ref (a 20), .ref (a 21), .ref (a 22), .ref (a 23), .int 0, .ref (a 25), .ref (a 26), .ref (a 27), .ref (a 28), .ref (a 29), .ref (a 30), .int 0, .ref (a 32), .ref (a 33), .ref (a 34), .int 0, .ref (a 36), .ref (a 37), .int 0, .int 0, .ref (a 40), .ref (a 41), .int 0, .ref (a 43), .ref (a 44)])), ((a 5), .inl (k 1, 240, .inl (upd f_101 (Int32.toNatClampNeg 4) x_104)))] H := hP
      have hD : va_D A [((a 0), .inr (8, [.ref (a 1), .ref (a 2), .ref (a 3), .ref (a 4), .ref (a 5), .int 4, .int (-1), .int 0, .long 0, .int 0, .int 0, .int 0, .int 0, .ref (a 14), .ref (a 15), .ref (a 16), .int 0, .ref (a 18), .ref (a 19), .ref (a 20), .ref (a 21), .ref (a 22), .ref (a 23), .int 0, .ref (a 25), .ref (a 26), .ref (a 27), .ref (a 28), .ref (a 29), .ref (a 30), .int 0, .ref (a 32), .ref (a 33), .ref (a 34), .int 0, .ref (a 36), .ref (a 37), .int 0, .int 0, .ref (a 40), .ref (a 41), .int 0, .ref (a 43), .ref (a 44)])), ((a 5), .inl (k 1, 240, .inl (upd f_101 (Int32.toNatClampNeg 4) x_104)))] := hD
      generalize (upd f_101 (Int32.toNatClampNeg 4) x_104) = f_105 at hP hD
      refine lv_aload_n hx hb dX8_feed_63 rfl (lv_at hl 1 rfl) ?_
      refine lv_dup hx hb dX8_feed_64 rfl ?_
      refine va_get (D := D) (ci := 8) (v := .int 4) (C := RX8) (T := TX8) (N := 44) hx hb hts inX8 hown hK hP 0 rfl rfl 5 (by decide) (hts _ tw_978) (fun _ h9 => h9) rfl dX8_feed_65 ?_
      refine lv_iconst (v := 1) hx hb dX8_feed_68 (by decide) ?_
      refine lv_iadd hx hb dX8_feed_69 ?_
      refine lv_ti (y := 5) (by decide) ?_
      refine va_put (D := D) (ci := 8) (v := .int 5) (ty := .int) (C := RX8) (T := TX8) (N := 44) hx hb hts inX8 tyX8 tyX8_ok nmX8 hown hK hP hD hS 0 rfl rfl 5 (by decide) (hts _ tw_978) (fun _ h9 => h9) rfl (by decide +kernel) rfl rfl (Nat.le_of_ble_eq_true rfl) dX8_feed_70 (fun H locs hP hD hS => ?_)
      have hP : va_P D classes [((a 0), .inr (8, [.ref (a 1), .ref (a 2), .ref (a 3), .ref (a 4), .ref (a 5), .int 5, .int (-1), .int 0, .long 0, .int 0, .int 0, .int 0, .int 0, .ref (a 14), .ref (a 15), .ref (a 16), .int 0, .ref (a 18), .ref (a 19), .ref (a 20), .ref (a 21), .ref (a 22), .ref (a 23), .int 0, .ref (a 25), .ref (a 26), .ref (a 27), .ref (a 28), .ref (a 29), .ref (a 30), .int 0, .ref (a 32), .ref (a 33), .ref (a 34), .int 0, .ref (a 36), .ref (a 37), .int 0, .int 0, .ref (a 40), .ref (a 41), .int 0, .ref (a 43), .ref (a 44)])), ((a 5), .inl (k 1, 240, .inl f_105))] H := hP
      have hD : va_D A [((a 0), .inr (8, [.ref (a 1), .ref (a 2), .ref (a 3), .ref (a 4), .ref (a 5), .int 5, .int (-1), .int 0, .long 0, .int 0, .int 0, .int 0, .int 0, .ref (a 14), .ref (a 15), .ref (a 16), .int 0, .ref (a 18), .ref (a 19), .ref (a 20), .ref (a 21), .ref (a 22), .ref (a 23), .int 0, .ref (a 25), .ref (a 26), .ref (a 27), .ref (a 28), .ref (a 29), .ref (a 30), .int 0, .ref (a 32), .ref (a 33), .ref (a 34), .int 0, .ref (a 36), .ref (a 37), .int 0, .int 0, .ref (a 40), .ref (a 41), .int 0, .ref (a 43), .ref (a 44)])), ((a 5), .inl (k 1, 240, .inl f_105))] := hD
      refine lv_iinc (v := 1) (lv' := [(4, .int 1), (0, .ref (a 0)), (1, .int 7), (2, .long p1)]) hx hb dX8_feed_73 hl (k := 0) rfl (by decide) (by decide) rfl (fun ls hl => ?_)
      refine lv_goto (tgt := 37) hx hb dX8_feed_76 (by decide) ?_
      refine lv_iload hx hb dX8_feed_37 (lv_at hl 0 rfl) ?_
      refine lv_if_lt (tgt := 79) hx hb dX8_feed_39 (by decide) (fun h => absurd h (by decide)) (fun _ => ?_)
      refine lv_aload_n hx hb dX8_feed_42 rfl (lv_at hl 1 rfl) ?_
      refine va_get (D := D) (ci := 8) (v := .ref (a 5)) (C := RX8) (T := TX8) (N := 44) hx hb hts inX8 hown hK hP 0 rfl rfl 4 (by decide) (hts _ tw_977) (fun _ h9 => h9) rfl dX8_feed_43 ?_
      refine lv_aload_n hx hb dX8_feed_46 rfl (lv_at hl 1 rfl) ?_
      refine va_get (D := D) (ci := 8) (v := .int 5) (C := RX8) (T := TX8) (N := 44) hx hb hts inX8 hown hK hP 0 rfl rfl 5 (by decide) (hts _ tw_978) (fun _ h9 => h9) rfl dX8_feed_47 ?_
      refine lv_lload_n hx hb dX8_feed_50 rfl (lv_at hl 3 rfl) ?_
      refine lv_bipush (v := 8) hx hb dX8_feed_51 (by decide) ?_
      refine lv_iload hx hb dX8_feed_53 (lv_at hl 0 rfl) ?_
      refine lv_imul hx hb dX8_feed_55 ?_
      refine lv_ti (y := 8) (by decide) ?_
      refine lv_lshr hx hb dX8_feed_56 rfl ?_
      refine lv_topl (fun x_106 ex_106 => ?_)
      refine lv_ldc2 hx hb hown (hts _ tw_1114) dX8_feed_57 ?_
      refine lv_tl (y := ((255 : Int32).toInt64)) (by decide) ?_
      refine lv_land hx hb dX8_feed_60 ?_
      refine lv_topl (fun x_107 ex_107 => ?_)
      refine lv_l2i hx hb dX8_feed_61 rfl ?_
      refine lv_topi (fun x_108 ex_108 => ?_)
      refine va_iast hx hb hK hP hD hS 1 1 rfl rfl (by unfold vp_in; decide) dX8_feed_62 (fun H locs hP hD hS => ?_)
      have hP : va_P D classes [((a 0), .inr (8, [.ref (a 1), .ref (a 2), .ref (a 3), .ref (a 4), .ref (a 5), .int 5, .int (-1), .int 0, .long 0, .int 0, .int 0, .int 0, .int 0, .ref (a 14), .ref (a 15), .ref (a 16), .int 0, .ref (a 18), .ref (a 19), .ref (a 20), .ref (a 21), .ref (a 22), .ref (a 23), .int 0, .ref (a 25), .ref (a 26), .ref (a 27), .ref (a 28), .ref (a 29), .ref (a 30), .int 0, .ref (a 32), .ref (a 33), .ref (a 34), .int 0, .ref (a 36), .ref (a 37), .int 0, .int 0, .ref (a 40), .ref (a 41), .int 0, .ref (a 43), .ref (a 44)])), ((a 5), .inl (k 1, 240, .inl (upd f_105 (Int32.toNatClampNeg 5) x_108)))] H := hP
      have hD : va_D A [((a 0), .inr (8, [.ref (a 1), .ref (a 2), .ref (a 3), .ref (a 4), .ref (a 5), .int 5, .int (-1), .int 0, .long 0, .int 0, .int 0, .int 0, .int 0, .ref (a 14), .ref (a 15), .ref (a 16), .int 0, .ref (a 18), .ref (a 19), .ref (a 20), .ref (a 21), .ref (a 22), .ref (a 23), .int 0, .ref (a 25), .ref (a 26), .ref (a 27), .ref (a 28), .ref (a 29), .ref (a 30), .int 0, .ref (a 32), .ref (a 33), .ref (a 34), .int 0, .ref (a 36), .ref (a 37), .int 0, .int 0, .ref (a 40), .ref (a 41), .int 0, .ref (a 43), .ref (a 44)])), ((a 5), .inl (k 1, 240, .inl (upd f_105 (Int32.toNatClampNeg 5) x_108)))] := hD
      generalize (upd f_105 (Int32.toNatClampNeg 5) x_108) = f_109 at hP hD
      refine lv_aload_n hx hb dX8_feed_63 rfl (lv_at hl 1 rfl) ?_
      refine lv_dup hx hb dX8_feed_64 rfl ?_
      refine va_get (D := D) (ci := 8) (v := .int 5) (C := RX8) (T := TX8) (N := 44) hx hb hts inX8 hown hK hP 0 rfl rfl 5 (by decide) (hts _ tw_978) (fun _ h9 => h9) rfl dX8_feed_65 ?_
      refine lv_iconst (v := 1) hx hb dX8_feed_68 (by decide) ?_
      refine lv_iadd hx hb dX8_feed_69 ?_
      refine lv_ti (y := 6) (by decide) ?_
      refine va_put (D := D) (ci := 8) (v := .int 6) (ty := .int) (C := RX8) (T := TX8) (N := 44) hx hb hts inX8 tyX8 tyX8_ok nmX8 hown hK hP hD hS 0 rfl rfl 5 (by decide) (hts _ tw_978) (fun _ h9 => h9) rfl (by decide +kernel) rfl rfl (Nat.le_of_ble_eq_true rfl) dX8_feed_70 (fun H locs hP hD hS => ?_)
      have hP : va_P D classes [((a 0), .inr (8, [.ref (a 1), .ref (a 2), .ref (a 3), .ref (a 4), .ref (a 5), .int 6, .int (-1), .int 0, .long 0, .int 0, .int 0, .int 0, .int 0, .ref (a 14), .ref (a 15), .ref (a 16), .int 0, .ref (a 18), .ref (a 19), .ref (a 20), .ref (a 21), .ref (a 22), .ref (a 23), .int 0, .ref (a 25), .ref (a 26), .ref (a 27), .ref (a 28), .ref (a 29), .ref (a 30), .int 0, .ref (a 32), .ref (a 33), .ref (a 34), .int 0, .ref (a 36), .ref (a 37), .int 0, .int 0, .ref (a 40), .ref (a 41), .int 0, .ref (a 43), .ref (a 44)])), ((a 5), .inl (k 1, 240, .inl f_109))] H := hP
      have hD : va_D A [((a 0), .inr (8, [.ref (a 1), .ref (a 2), .ref (a 3), .ref (a 4), .ref (a 5), .int 6, .int (-1), .int 0, .long 0, .int 0, .int 0, .int 0, .int 0, .ref (a 14), .ref (a 15), .ref (a 16), .int 0, .ref (a 18), .ref (a 19), .ref (a 20), .ref (a 21), .ref (a 22), .ref (a 23), .int 0, .ref (a 25), .ref (a 26), .ref (a 27), .ref (a 28), .ref (a 29), .ref (a 30), .int 0, .ref (a 32), .ref (a 33), .ref (a 34), .int 0, .ref (a 36), .ref (a 37), .int 0, .int 0, .ref (a 40), .ref (a 41), .int 0, .ref (a 43), .ref (a 44)])), ((a 5), .inl (k 1, 240, .inl f_109))] := hD
      refine lv_iinc (v := 0) (lv' := [(4, .int 0), (0, .ref (a 0)), (1, .int 7), (2, .long p1)]) hx hb dX8_feed_73 hl (k := 0) rfl (by decide) (by decide) rfl (fun ls hl => ?_)
      refine lv_goto (tgt := 37) hx hb dX8_feed_76 (by decide) ?_
      refine lv_iload hx hb dX8_feed_37 (lv_at hl 0 rfl) ?_
      refine lv_if_lt (tgt := 79) hx hb dX8_feed_39 (by decide) (fun h => absurd h (by decide)) (fun _ => ?_)
      refine lv_aload_n hx hb dX8_feed_42 rfl (lv_at hl 1 rfl) ?_
      refine va_get (D := D) (ci := 8) (v := .ref (a 5)) (C := RX8) (T := TX8) (N := 44) hx hb hts inX8 hown hK hP 0 rfl rfl 4 (by decide) (hts _ tw_977) (fun _ h9 => h9) rfl dX8_feed_43 ?_
      refine lv_aload_n hx hb dX8_feed_46 rfl (lv_at hl 1 rfl) ?_
      refine va_get (D := D) (ci := 8) (v := .int 6) (C := RX8) (T := TX8) (N := 44) hx hb hts inX8 hown hK hP 0 rfl rfl 5 (by decide) (hts _ tw_978) (fun _ h9 => h9) rfl dX8_feed_47 ?_
      refine lv_lload_n hx hb dX8_feed_50 rfl (lv_at hl 3 rfl) ?_
      refine lv_bipush (v := 8) hx hb dX8_feed_51 (by decide) ?_
      refine lv_iload hx hb dX8_feed_53 (lv_at hl 0 rfl) ?_
      refine lv_imul hx hb dX8_feed_55 ?_
      refine lv_ti (y := 0) (by decide) ?_
      refine lv_lshr hx hb dX8_feed_56 rfl ?_
      refine lv_topl (fun x_110 ex_110 => ?_)
      refine lv_ldc2 hx hb hown (hts _ tw_1114) dX8_feed_57 ?_
      refine lv_tl (y := ((255 : Int32).toInt64)) (by decide) ?_
      refine lv_land hx hb dX8_feed_60 ?_
      refine lv_topl (fun x_111 ex_111 => ?_)
      refine lv_l2i hx hb dX8_feed_61 rfl ?_
      refine lv_topi (fun x_112 ex_112 => ?_)
      refine va_iast hx hb hK hP hD hS 1 1 rfl rfl (by unfold vp_in; decide) dX8_feed_62 (fun H locs hP hD hS => ?_)
      have hP : va_P D classes [((a 0), .inr (8, [.ref (a 1), .ref (a 2), .ref (a 3), .ref (a 4), .ref (a 5), .int 6, .int (-1), .int 0, .long 0, .int 0, .int 0, .int 0, .int 0, .ref (a 14), .ref (a 15), .ref (a 16), .int 0, .ref (a 18), .ref (a 19), .ref (a 20), .ref (a 21), .ref (a 22), .ref (a 23), .int 0, .ref (a 25), .ref (a 26), .ref (a 27), .ref (a 28), .ref (a 29), .ref (a 30), .int 0, .ref (a 32), .ref (a 33), .ref (a 34), .int 0, .ref (a 36), .ref (a 37), .int 0, .int 0, .ref (a 40), .ref (a 41), .int 0, .ref (a 43), .ref (a 44)])), ((a 5), .inl (k 1, 240, .inl (upd f_109 (Int32.toNatClampNeg 6) x_112)))] H := hP
      have hD : va_D A [((a 0), .inr (8, [.ref (a 1), .ref (a 2), .ref (a 3), .ref (a 4), .ref (a 5), .int 6, .int (-1), .int 0, .long 0, .int 0, .int 0, .int 0, .int 0, .ref (a 14), .ref (a 15), .ref (a 16), .int 0, .ref (a 18), .ref (a 19), .ref (a 20), .ref (a 21), .ref (a 22), .ref (a 23), .int 0, .ref (a 25), .ref (a 26), .ref (a 27), .ref (a 28), .ref (a 29), .ref (a 30), .int 0, .ref (a 32), .ref (a 33), .ref (a 34), .int 0, .ref (a 36), .ref (a 37), .int 0, .int 0, .ref (a 40), .ref (a 41), .int 0, .ref (a 43), .ref (a 44)])), ((a 5), .inl (k 1, 240, .inl (upd f_109 (Int32.toNatClampNeg 6) x_112)))] := hD
      generalize (upd f_109 (Int32.toNatClampNeg 6) x_112) = f_113 at hP hD
      refine lv_aload_n hx hb dX8_feed_63 rfl (lv_at hl 1 rfl) ?_
      refine lv_dup hx hb dX8_feed_64 rfl ?_
      refine va_get (D := D) (ci := 8) (v := .int 6) (C := RX8) (T := TX8) (N := 44) hx hb hts inX8 hown hK hP 0 rfl rfl 5 (by decide) (hts _ tw_978) (fun _ h9 => h9) rfl dX8_feed_65 ?_
      refine lv_iconst (v := 1) hx hb dX8_feed_68 (by decide) ?_
      refine lv_iadd hx hb dX8_feed_69 ?_
      refine lv_ti (y := 7) (by decide) ?_
      refine va_put (D := D) (ci := 8) (v := .int 7) (ty := .int) (C := RX8) (T := TX8) (N := 44) hx hb hts inX8 tyX8 tyX8_ok nmX8 hown hK hP hD hS 0 rfl rfl 5 (by decide) (hts _ tw_978) (fun _ h9 => h9) rfl (by decide +kernel) rfl rfl (Nat.le_of_ble_eq_true rfl) dX8_feed_70 (fun H locs hP hD hS => ?_)
      have hP : va_P D classes [((a 0), .inr (8, [.ref (a 1), .ref (a 2), .ref (a 3), .ref (a 4), .ref (a 5), .int 7, .int (-1), .int 0, .long 0, .int 0, .int 0, .int 0, .int 0, .ref (a 14), .ref (a 15), .ref (a 16), .int 0, .ref (a 18), .ref (a 19), .ref (a 20), .ref (a 21), .ref (a 22), .ref (a 23), .int 0, .ref (a 25), .ref (a 26), .ref (a 27), .ref (a 28), .ref (a 29), .ref (a 30), .int 0, .ref (a 32), .ref (a 33), .ref (a 34), .int 0, .ref (a 36), .ref (a 37), .int 0, .int 0, .ref (a 40), .ref (a 41), .int 0, .ref (a 43), .ref (a 44)])), ((a 5), .inl (k 1, 240, .inl f_113))] H := hP
      have hD : va_D A [((a 0), .inr (8, [.ref (a 1), .ref (a 2), .ref (a 3), .ref (a 4), .ref (a 5), .int 7, .int (-1), .int 0, .long 0, .int 0, .int 0, .int 0, .int 0, .ref (a 14), .ref (a 15), .ref (a 16), .int 0, .ref (a 18), .ref (a 19), .ref (a 20), .ref (a 21), .ref (a 22), .ref (a 23), .int 0, .ref (a 25), .ref (a 26), .ref (a 27), .ref (a 28), .ref (a 29), .ref (a 30), .int 0, .ref (a 32), .ref (a 33), .ref (a 34), .int 0, .ref (a 36), .ref (a 37), .int 0, .int 0, .ref (a 40), .ref (a 41), .int 0, .ref (a 43), .ref (a 44)])), ((a 5), .inl (k 1, 240, .inl f_113))] := hD
      refine lv_iinc (v := (-1)) (lv' := [(4, .int (-1)), (0, .ref (a 0)), (1, .int 7), (2, .long p1)]) hx hb dX8_feed_73 hl (k := 0) rfl (by decide) (by decide) rfl (fun ls hl => ?_)
      refine lv_goto (tgt := 37) hx hb dX8_feed_76 (by decide) ?_
      refine lv_iload hx hb dX8_feed_37 (lv_at hl 0 rfl) ?_
      refine lv_if_lt (tgt := 79) hx hb dX8_feed_39 (by decide) (fun _ => ?_) (fun h => absurd (by decide) h)
      refine lv_aload_n hx hb dX8_feed_79 rfl (lv_at hl 1 rfl) ?_
      refine va_get (D := D) (ci := 8) (v := .int 7) (C := RX8) (T := TX8) (N := 44) hx hb hts inX8 hown hK hP 0 rfl rfl 5 (by decide) (hts _ tw_978) (fun _ h9 => h9) rfl dX8_feed_80 ?_
      have hP9 := hP.sub (ws' := []) [] rfl
      have hD9 := hD.sub (ws' := []) [] (by decide) rfl
      exact W.iret (v := 7) hx hb hr (fun t ht hW => ⟨⟨7, (), rfl, ⟨fun _ => rfl, fun h => absurd ⟨by decide, by decide⟩ h⟩, by rw [ht]; exact hP9, hD9⟩, hS.F ht⟩) hS.2.2 dX8_feed_83
    · refine lv_aload_n hx hb dX8_feed_16 rfl (lv_at hl 0 rfl) ?_
      refine va_get (D := D) (ci := 8) (v := .int 0) (C := RX8) (T := TX8) (N := 44) hx hb hts inX8 hown hK hP 0 rfl rfl 5 (by decide) (hts _ tw_978) (fun _ h9 => h9) rfl dX8_feed_17 ?_
      refine lv_iload_n hx hb dX8_feed_20 rfl (lv_at hl 1 rfl) ?_
      refine lv_iadd hx hb dX8_feed_21 ?_
      refine lv_ti (y := 8) (by decide) ?_
      refine lv_sipush (v := 240) hx hb dX8_feed_22 (by decide) ?_
      refine lv_icmp_le (tgt := 32) hx hb dX8_feed_25 (by decide) (fun _ => ?_) (fun h => absurd (by decide) h)
      refine lv_iload_n hx hb dX8_feed_32 rfl (lv_at hl 1 rfl) ?_
      refine lv_iconst (v := 1) hx hb dX8_feed_33 (by decide) ?_
      refine lv_isub hx hb dX8_feed_34 ?_
      refine lv_ti (y := 7) (by decide) ?_
      refine lv_istore (lv' := [(4, .int 7), (0, .ref (a 0)), (1, .int 8), (2, .long p1)]) hx hb dX8_feed_35 hl (by decide) rfl (fun ls hl => ?_)
      refine lv_iload hx hb dX8_feed_37 (lv_at hl 0 rfl) ?_
      refine lv_if_lt (tgt := 79) hx hb dX8_feed_39 (by decide) (fun h => absurd h (by decide)) (fun _ => ?_)
      refine lv_aload_n hx hb dX8_feed_42 rfl (lv_at hl 1 rfl) ?_
      refine va_get (D := D) (ci := 8) (v := .ref (a 5)) (C := RX8) (T := TX8) (N := 44) hx hb hts inX8 hown hK hP 0 rfl rfl 4 (by decide) (hts _ tw_977) (fun _ h9 => h9) rfl dX8_feed_43 ?_
      refine lv_aload_n hx hb dX8_feed_46 rfl (lv_at hl 1 rfl) ?_
      refine va_get (D := D) (ci := 8) (v := .int 0) (C := RX8) (T := TX8) (N := 44) hx hb hts inX8 hown hK hP 0 rfl rfl 5 (by decide) (hts _ tw_978) (fun _ h9 => h9) rfl dX8_feed_47 ?_
      refine lv_lload_n hx hb dX8_feed_50 rfl (lv_at hl 3 rfl) ?_
      refine lv_bipush (v := 8) hx hb dX8_feed_51 (by decide) ?_
      refine lv_iload hx hb dX8_feed_53 (lv_at hl 0 rfl) ?_
      refine lv_imul hx hb dX8_feed_55 ?_
      refine lv_ti (y := 56) (by decide) ?_
      refine lv_lshr hx hb dX8_feed_56 rfl ?_
      refine lv_topl (fun x_114 ex_114 => ?_)
      refine lv_ldc2 hx hb hown (hts _ tw_1114) dX8_feed_57 ?_
      refine lv_tl (y := ((255 : Int32).toInt64)) (by decide) ?_
      refine lv_land hx hb dX8_feed_60 ?_
      refine lv_topl (fun x_115 ex_115 => ?_)
      refine lv_l2i hx hb dX8_feed_61 rfl ?_
      refine lv_topi (fun x_116 ex_116 => ?_)
      refine va_iast hx hb hK hP hD hS 1 1 rfl rfl (by unfold vp_in; decide) dX8_feed_62 (fun H locs hP hD hS => ?_)
      have hP : va_P D classes [((a 0), .inr (8, [.ref (a 1), .ref (a 2), .ref (a 3), .ref (a 4), .ref (a 5), .int 0, .int (-1), .int 0, .long 0, .int 0, .int 0, .int 0, .int 0, .ref (a 14), .ref (a 15), .ref (a 16), .int 0, .ref (a 18), .ref (a 19), .ref (a 20), .ref (a 21), .ref (a 22), .ref (a 23), .int 0, .ref (a 25), .ref (a 26), .ref (a 27), .ref (a 28), .ref (a 29), .ref (a 30), .int 0, .ref (a 32), .ref (a 33), .ref (a 34), .int 0, .ref (a 36), .ref (a 37), .int 0, .int 0, .ref (a 40), .ref (a 41), .int 0, .ref (a 43), .ref (a 44)])), ((a 5), .inl (k 1, 240, .inl (upd (fun _ => 0) (Int32.toNatClampNeg 0) x_116)))] H := hP
      have hD : va_D A [((a 0), .inr (8, [.ref (a 1), .ref (a 2), .ref (a 3), .ref (a 4), .ref (a 5), .int 0, .int (-1), .int 0, .long 0, .int 0, .int 0, .int 0, .int 0, .ref (a 14), .ref (a 15), .ref (a 16), .int 0, .ref (a 18), .ref (a 19), .ref (a 20), .ref (a 21), .ref (a 22), .ref (a 23), .int 0, .ref (a 25), .ref (a 26), .ref (a 27), .ref (a 28), .ref (a 29), .ref (a 30), .int 0, .ref (a 32), .ref (a 33), .ref (a 34), .int 0, .ref (a 36), .ref (a 37), .int 0, .int 0, .ref (a 40), .ref (a 41), .int 0, .ref (a 43), .ref (a 44)])), ((a 5), .inl (k 1, 240, .inl (upd (fun _ => 0) (Int32.toNatClampNeg 0) x_116)))] := hD
      generalize (upd (fun _ => 0) (Int32.toNatClampNeg 0) x_116) = f_117 at hP hD
      refine lv_aload_n hx hb dX8_feed_63 rfl (lv_at hl 1 rfl) ?_
      refine lv_dup hx hb dX8_feed_64 rfl ?_
      refine va_get (D := D) (ci := 8) (v := .int 0) (C := RX8) (T := TX8) (N := 44) hx hb hts inX8 hown hK hP 0 rfl rfl 5 (by decide) (hts _ tw_978) (fun _ h9 => h9) rfl dX8_feed_65 ?_
      refine lv_iconst (v := 1) hx hb dX8_feed_68 (by decide) ?_
      refine lv_iadd hx hb dX8_feed_69 ?_
      refine lv_ti (y := 1) (by decide) ?_
      refine va_put (D := D) (ci := 8) (v := .int 1) (ty := .int) (C := RX8) (T := TX8) (N := 44) hx hb hts inX8 tyX8 tyX8_ok nmX8 hown hK hP hD hS 0 rfl rfl 5 (by decide) (hts _ tw_978) (fun _ h9 => h9) rfl (by decide +kernel) rfl rfl (Nat.le_of_ble_eq_true rfl) dX8_feed_70 (fun H locs hP hD hS => ?_)
      have hP : va_P D classes [((a 0), .inr (8, [.ref (a 1), .ref (a 2), .ref (a 3), .ref (a 4), .ref (a 5), .int 1, .int (-1), .int 0, .long 0, .int 0, .int 0, .int 0, .int 0, .ref (a 14), .ref (a 15), .ref (a 16), .int 0, .ref (a 18), .ref (a 19), .ref (a 20), .ref (a 21), .ref (a 22), .ref (a 23), .int 0, .ref (a 25), .ref (a 26), .ref (a 27), .ref (a 28), .ref (a 29), .ref (a 30), .int 0, .ref (a 32), .ref (a 33), .ref (a 34), .int 0, .ref (a 36), .ref (a 37), .int 0, .int 0, .ref (a 40), .ref (a 41), .int 0, .ref (a 43), .ref (a 44)])), ((a 5), .inl (k 1, 240, .inl f_117))] H := hP
      have hD : va_D A [((a 0), .inr (8, [.ref (a 1), .ref (a 2), .ref (a 3), .ref (a 4), .ref (a 5), .int 1, .int (-1), .int 0, .long 0, .int 0, .int 0, .int 0, .int 0, .ref (a 14), .ref (a 15), .ref (a 16), .int 0, .ref (a 18), .ref (a 19), .ref (a 20), .ref (a 21), .ref (a 22), .ref (a 23), .int 0, .ref (a 25), .ref (a 26), .ref (a 27), .ref (a 28), .ref (a 29), .ref (a 30), .int 0, .ref (a 32), .ref (a 33), .ref (a 34), .int 0, .ref (a 36), .ref (a 37), .int 0, .int 0, .ref (a 40), .ref (a 41), .int 0, .ref (a 43), .ref (a 44)])), ((a 5), .inl (k 1, 240, .inl f_117))] := hD
      refine lv_iinc (v := 6) (lv' := [(4, .int 6), (0, .ref (a 0)), (1, .int 8), (2, .long p1)]) hx hb dX8_feed_73 hl (k := 0) rfl (by decide) (by decide) rfl (fun ls hl => ?_)
      refine lv_goto (tgt := 37) hx hb dX8_feed_76 (by decide) ?_
      refine lv_iload hx hb dX8_feed_37 (lv_at hl 0 rfl) ?_
      refine lv_if_lt (tgt := 79) hx hb dX8_feed_39 (by decide) (fun h => absurd h (by decide)) (fun _ => ?_)
      refine lv_aload_n hx hb dX8_feed_42 rfl (lv_at hl 1 rfl) ?_
      refine va_get (D := D) (ci := 8) (v := .ref (a 5)) (C := RX8) (T := TX8) (N := 44) hx hb hts inX8 hown hK hP 0 rfl rfl 4 (by decide) (hts _ tw_977) (fun _ h9 => h9) rfl dX8_feed_43 ?_
      refine lv_aload_n hx hb dX8_feed_46 rfl (lv_at hl 1 rfl) ?_
      refine va_get (D := D) (ci := 8) (v := .int 1) (C := RX8) (T := TX8) (N := 44) hx hb hts inX8 hown hK hP 0 rfl rfl 5 (by decide) (hts _ tw_978) (fun _ h9 => h9) rfl dX8_feed_47 ?_
      refine lv_lload_n hx hb dX8_feed_50 rfl (lv_at hl 3 rfl) ?_
      refine lv_bipush (v := 8) hx hb dX8_feed_51 (by decide) ?_
      refine lv_iload hx hb dX8_feed_53 (lv_at hl 0 rfl) ?_
      refine lv_imul hx hb dX8_feed_55 ?_
      refine lv_ti (y := 48) (by decide) ?_
      refine lv_lshr hx hb dX8_feed_56 rfl ?_
      refine lv_topl (fun x_118 ex_118 => ?_)
      refine lv_ldc2 hx hb hown (hts _ tw_1114) dX8_feed_57 ?_
      refine lv_tl (y := ((255 : Int32).toInt64)) (by decide) ?_
      refine lv_land hx hb dX8_feed_60 ?_
      refine lv_topl (fun x_119 ex_119 => ?_)
      refine lv_l2i hx hb dX8_feed_61 rfl ?_
      refine lv_topi (fun x_120 ex_120 => ?_)
      refine va_iast hx hb hK hP hD hS 1 1 rfl rfl (by unfold vp_in; decide) dX8_feed_62 (fun H locs hP hD hS => ?_)
      have hP : va_P D classes [((a 0), .inr (8, [.ref (a 1), .ref (a 2), .ref (a 3), .ref (a 4), .ref (a 5), .int 1, .int (-1), .int 0, .long 0, .int 0, .int 0, .int 0, .int 0, .ref (a 14), .ref (a 15), .ref (a 16), .int 0, .ref (a 18), .ref (a 19), .ref (a 20), .ref (a 21), .ref (a 22), .ref (a 23), .int 0, .ref (a 25), .ref (a 26), .ref (a 27), .ref (a 28), .ref (a 29), .ref (a 30), .int 0, .ref (a 32), .ref (a 33), .ref (a 34), .int 0, .ref (a 36), .ref (a 37), .int 0, .int 0, .ref (a 40), .ref (a 41), .int 0, .ref (a 43), .ref (a 44)])), ((a 5), .inl (k 1, 240, .inl (upd f_117 (Int32.toNatClampNeg 1) x_120)))] H := hP
      have hD : va_D A [((a 0), .inr (8, [.ref (a 1), .ref (a 2), .ref (a 3), .ref (a 4), .ref (a 5), .int 1, .int (-1), .int 0, .long 0, .int 0, .int 0, .int 0, .int 0, .ref (a 14), .ref (a 15), .ref (a 16), .int 0, .ref (a 18), .ref (a 19), .ref (a 20), .ref (a 21), .ref (a 22), .ref (a 23), .int 0, .ref (a 25), .ref (a 26), .ref (a 27), .ref (a 28), .ref (a 29), .ref (a 30), .int 0, .ref (a 32), .ref (a 33), .ref (a 34), .int 0, .ref (a 36), .ref (a 37), .int 0, .int 0, .ref (a 40), .ref (a 41), .int 0, .ref (a 43), .ref (a 44)])), ((a 5), .inl (k 1, 240, .inl (upd f_117 (Int32.toNatClampNeg 1) x_120)))] := hD
      generalize (upd f_117 (Int32.toNatClampNeg 1) x_120) = f_121 at hP hD
      refine lv_aload_n hx hb dX8_feed_63 rfl (lv_at hl 1 rfl) ?_
      refine lv_dup hx hb dX8_feed_64 rfl ?_
      refine va_get (D := D) (ci := 8) (v := .int 1) (C := RX8) (T := TX8) (N := 44) hx hb hts inX8 hown hK hP 0 rfl rfl 5 (by decide) (hts _ tw_978) (fun _ h9 => h9) rfl dX8_feed_65 ?_
      refine lv_iconst (v := 1) hx hb dX8_feed_68 (by decide) ?_
      refine lv_iadd hx hb dX8_feed_69 ?_
      refine lv_ti (y := 2) (by decide) ?_
      refine va_put (D := D) (ci := 8) (v := .int 2) (ty := .int) (C := RX8) (T := TX8) (N := 44) hx hb hts inX8 tyX8 tyX8_ok nmX8 hown hK hP hD hS 0 rfl rfl 5 (by decide) (hts _ tw_978) (fun _ h9 => h9) rfl (by decide +kernel) rfl rfl (Nat.le_of_ble_eq_true rfl) dX8_feed_70 (fun H locs hP hD hS => ?_)
      have hP : va_P D classes [((a 0), .inr (8, [.ref (a 1), .ref (a 2), .ref (a 3), .ref (a 4), .ref (a 5), .int 2, .int (-1), .int 0, .long 0, .int 0, .int 0, .int 0, .int 0, .ref (a 14), .ref (a 15), .ref (a 16), .int 0, .ref (a 18), .ref (a 19), .ref (a 20), .ref (a 21), .ref (a 22), .ref (a 23), .int 0, .ref (a 25), .ref (a 26), .ref (a 27), .ref (a 28), .ref (a 29), .ref (a 30), .int 0, .ref (a 32), .ref (a 33), .ref (a 34), .int 0, .ref (a 36), .ref (a 37), .int 0, .int 0, .ref (a 40), .ref (a 41), .int 0, .ref (a 43), .ref (a 44)])), ((a 5), .inl (k 1, 240, .inl f_121))] H := hP
      have hD : va_D A [((a 0), .inr (8, [.ref (a 1), .ref (a 2), .ref (a 3), .ref (a 4), .ref (a 5), .int 2, .int (-1), .int 0, .long 0, .int 0, .int 0, .int 0, .int 0, .ref (a 14), .ref (a 15), .ref (a 16), .int 0, .ref (a 18), .ref (a 19), .ref (a 20), .ref (a 21), .ref (a 22), .ref (a 23), .int 0, .ref (a 25), .ref (a 26), .ref (a 27), .ref (a 28), .ref (a 29), .ref (a 30), .int 0, .ref (a 32), .ref (a 33), .ref (a 34), .int 0, .ref (a 36), .ref (a 37), .int 0, .int 0, .ref (a 40), .ref (a 41), .int 0, .ref (a 43), .ref (a 44)])), ((a 5), .inl (k 1, 240, .inl f_121))] := hD
      refine lv_iinc (v := 5) (lv' := [(4, .int 5), (0, .ref (a 0)), (1, .int 8), (2, .long p1)]) hx hb dX8_feed_73 hl (k := 0) rfl (by decide) (by decide) rfl (fun ls hl => ?_)
      refine lv_goto (tgt := 37) hx hb dX8_feed_76 (by decide) ?_
      refine lv_iload hx hb dX8_feed_37 (lv_at hl 0 rfl) ?_
      refine lv_if_lt (tgt := 79) hx hb dX8_feed_39 (by decide) (fun h => absurd h (by decide)) (fun _ => ?_)
      refine lv_aload_n hx hb dX8_feed_42 rfl (lv_at hl 1 rfl) ?_
      refine va_get (D := D) (ci := 8) (v := .ref (a 5)) (C := RX8) (T := TX8) (N := 44) hx hb hts inX8 hown hK hP 0 rfl rfl 4 (by decide) (hts _ tw_977) (fun _ h9 => h9) rfl dX8_feed_43 ?_
      refine lv_aload_n hx hb dX8_feed_46 rfl (lv_at hl 1 rfl) ?_
      refine va_get (D := D) (ci := 8) (v := .int 2) (C := RX8) (T := TX8) (N := 44) hx hb hts inX8 hown hK hP 0 rfl rfl 5 (by decide) (hts _ tw_978) (fun _ h9 => h9) rfl dX8_feed_47 ?_
      refine lv_lload_n hx hb dX8_feed_50 rfl (lv_at hl 3 rfl) ?_
      refine lv_bipush (v := 8) hx hb dX8_feed_51 (by decide) ?_
      refine lv_iload hx hb dX8_feed_53 (lv_at hl 0 rfl) ?_
      refine lv_imul hx hb dX8_feed_55 ?_
      refine lv_ti (y := 40) (by decide) ?_
      refine lv_lshr hx hb dX8_feed_56 rfl ?_
      refine lv_topl (fun x_122 ex_122 => ?_)
      refine lv_ldc2 hx hb hown (hts _ tw_1114) dX8_feed_57 ?_
      refine lv_tl (y := ((255 : Int32).toInt64)) (by decide) ?_
      refine lv_land hx hb dX8_feed_60 ?_
      refine lv_topl (fun x_123 ex_123 => ?_)
      refine lv_l2i hx hb dX8_feed_61 rfl ?_
      refine lv_topi (fun x_124 ex_124 => ?_)
      refine va_iast hx hb hK hP hD hS 1 1 rfl rfl (by unfold vp_in; decide) dX8_feed_62 (fun H locs hP hD hS => ?_)
      have hP : va_P D classes [((a 0), .inr (8, [.ref (a 1), .ref (a 2), .ref (a 3), .ref (a 4), .ref (a 5), .int 2, .int (-1), .int 0, .long 0, .int 0, .int 0, .int 0, .int 0, .ref (a 14), .ref (a 15), .ref (a 16), .int 0, .ref (a 18), .ref (a 19), .ref (a 20), .ref (a 21), .ref (a 22), .ref (a 23), .int 0, .ref (a 25), .ref (a 26), .ref (a 27), .ref (a 28), .ref (a 29), .ref (a 30), .int 0, .ref (a 32), .ref (a 33), .ref (a 34), .int 0, .ref (a 36), .ref (a 37), .int 0, .int 0, .ref (a 40), .ref (a 41), .int 0, .ref (a 43), .ref (a 44)])), ((a 5), .inl (k 1, 240, .inl (upd f_121 (Int32.toNatClampNeg 2) x_124)))] H := hP
      have hD : va_D A [((a 0), .inr (8, [.ref (a 1), .ref (a 2), .ref (a 3), .ref (a 4), .ref (a 5), .int 2, .int (-1), .int 0, .long 0, .int 0, .int 0, .int 0, .int 0, .ref (a 14), .ref (a 15), .ref (a 16), .int 0, .ref (a 18), .ref (a 19), .ref (a 20), .ref (a 21), .ref (a 22), .ref (a 23), .int 0, .ref (a 25), .ref (a 26), .ref (a 27), .ref (a 28), .ref (a 29), .ref (a 30), .int 0, .ref (a 32), .ref (a 33), .ref (a 34), .int 0, .ref (a 36), .ref (a 37), .int 0, .int 0, .ref (a 40), .ref (a 41), .int 0, .ref (a 43), .ref (a 44)])), ((a 5), .inl (k 1, 240, .inl (upd f_121 (Int32.toNatClampNeg 2) x_124)))] := hD
      generalize (upd f_121 (Int32.toNatClampNeg 2) x_124) = f_125 at hP hD
      refine lv_aload_n hx hb dX8_feed_63 rfl (lv_at hl 1 rfl) ?_
      refine lv_dup hx hb dX8_feed_64 rfl ?_
      refine va_get (D := D) (ci := 8) (v := .int 2) (C := RX8) (T := TX8) (N := 44) hx hb hts inX8 hown hK hP 0 rfl rfl 5 (by decide) (hts _ tw_978) (fun _ h9 => h9) rfl dX8_feed_65 ?_
      refine lv_iconst (v := 1) hx hb dX8_feed_68 (by decide) ?_
      refine lv_iadd hx hb dX8_feed_69 ?_
      refine lv_ti (y := 3) (by decide) ?_
      refine va_put (D := D) (ci := 8) (v := .int 3) (ty := .int) (C := RX8) (T := TX8) (N := 44) hx hb hts inX8 tyX8 tyX8_ok nmX8 hown hK hP hD hS 0 rfl rfl 5 (by decide) (hts _ tw_978) (fun _ h9 => h9) rfl (by decide +kernel) rfl rfl (Nat.le_of_ble_eq_true rfl) dX8_feed_70 (fun H locs hP hD hS => ?_)
      have hP : va_P D classes [((a 0), .inr (8, [.ref (a 1), .ref (a 2), .ref (a 3), .ref (a 4), .ref (a 5), .int 3, .int (-1), .int 0, .long 0, .int 0, .int 0, .int 0, .int 0, .ref (a 14), .ref (a 15), .ref (a 16), .int 0, .ref (a 18), .ref (a 19), .ref (a 20), .ref (a 21), .ref (a 22), .ref (a 23), .int 0, .ref (a 25), .ref (a 26), .ref (a 27), .ref (a 28), .ref (a 29), .ref (a 30), .int 0, .ref (a 32), .ref (a 33), .ref (a 34), .int 0, .ref (a 36), .ref (a 37), .int 0, .int 0, .ref (a 40), .ref (a 41), .int 0, .ref (a 43), .ref (a 44)])), ((a 5), .inl (k 1, 240, .inl f_125))] H := hP
      have hD : va_D A [((a 0), .inr (8, [.ref (a 1), .ref (a 2), .ref (a 3), .ref (a 4), .ref (a 5), .int 3, .int (-1), .int 0, .long 0, .int 0, .int 0, .int 0, .int 0, .ref (a 14), .ref (a 15), .ref (a 16), .int 0, .ref (a 18), .ref (a 19), .ref (a 20), .ref (a 21), .ref (a 22), .ref (a 23), .int 0, .ref (a 25), .ref (a 26), .ref (a 27), .ref (a 28), .ref (a 29), .ref (a 30), .int 0, .ref (a 32), .ref (a 33), .ref (a 34), .int 0, .ref (a 36), .ref (a 37), .int 0, .int 0, .ref (a 40), .ref (a 41), .int 0, .ref (a 43), .ref (a 44)])), ((a 5), .inl (k 1, 240, .inl f_125))] := hD
      refine lv_iinc (v := 4) (lv' := [(4, .int 4), (0, .ref (a 0)), (1, .int 8), (2, .long p1)]) hx hb dX8_feed_73 hl (k := 0) rfl (by decide) (by decide) rfl (fun ls hl => ?_)
      refine lv_goto (tgt := 37) hx hb dX8_feed_76 (by decide) ?_
      refine lv_iload hx hb dX8_feed_37 (lv_at hl 0 rfl) ?_
      refine lv_if_lt (tgt := 79) hx hb dX8_feed_39 (by decide) (fun h => absurd h (by decide)) (fun _ => ?_)
      refine lv_aload_n hx hb dX8_feed_42 rfl (lv_at hl 1 rfl) ?_
      refine va_get (D := D) (ci := 8) (v := .ref (a 5)) (C := RX8) (T := TX8) (N := 44) hx hb hts inX8 hown hK hP 0 rfl rfl 4 (by decide) (hts _ tw_977) (fun _ h9 => h9) rfl dX8_feed_43 ?_
      refine lv_aload_n hx hb dX8_feed_46 rfl (lv_at hl 1 rfl) ?_
      refine va_get (D := D) (ci := 8) (v := .int 3) (C := RX8) (T := TX8) (N := 44) hx hb hts inX8 hown hK hP 0 rfl rfl 5 (by decide) (hts _ tw_978) (fun _ h9 => h9) rfl dX8_feed_47 ?_
      refine lv_lload_n hx hb dX8_feed_50 rfl (lv_at hl 3 rfl) ?_
      refine lv_bipush (v := 8) hx hb dX8_feed_51 (by decide) ?_
      refine lv_iload hx hb dX8_feed_53 (lv_at hl 0 rfl) ?_
      refine lv_imul hx hb dX8_feed_55 ?_
      refine lv_ti (y := 32) (by decide) ?_
      refine lv_lshr hx hb dX8_feed_56 rfl ?_
      refine lv_topl (fun x_126 ex_126 => ?_)
      refine lv_ldc2 hx hb hown (hts _ tw_1114) dX8_feed_57 ?_
      refine lv_tl (y := ((255 : Int32).toInt64)) (by decide) ?_
      refine lv_land hx hb dX8_feed_60 ?_
      refine lv_topl (fun x_127 ex_127 => ?_)
      refine lv_l2i hx hb dX8_feed_61 rfl ?_
      refine lv_topi (fun x_128 ex_128 => ?_)
      refine va_iast hx hb hK hP hD hS 1 1 rfl rfl (by unfold vp_in; decide) dX8_feed_62 (fun H locs hP hD hS => ?_)
      have hP : va_P D classes [((a 0), .inr (8, [.ref (a 1), .ref (a 2), .ref (a 3), .ref (a 4), .ref (a 5), .int 3, .int (-1), .int 0, .long 0, .int 0, .int 0, .int 0, .int 0, .ref (a 14), .ref (a 15), .ref (a 16), .int 0, .ref (a 18), .ref (a 19), .ref (a 20), .ref (a 21), .ref (a 22), .ref (a 23), .int 0, .ref (a 25), .ref (a 26), .ref (a 27), .ref (a 28), .ref (a 29), .ref (a 30), .int 0, .ref (a 32), .ref (a 33), .ref (a 34), .int 0, .ref (a 36), .ref (a 37), .int 0, .int 0, .ref (a 40), .ref (a 41), .int 0, .ref (a 43), .ref (a 44)])), ((a 5), .inl (k 1, 240, .inl (upd f_125 (Int32.toNatClampNeg 3) x_128)))] H := hP
      have hD : va_D A [((a 0), .inr (8, [.ref (a 1), .ref (a 2), .ref (a 3), .ref (a 4), .ref (a 5), .int 3, .int (-1), .int 0, .long 0, .int 0, .int 0, .int 0, .int 0, .ref (a 14), .ref (a 15), .ref (a 16), .int 0, .ref (a 18), .ref (a 19), .ref (a 20), .ref (a 21), .ref (a 22), .ref (a 23), .int 0, .ref (a 25), .ref (a 26), .ref (a 27), .ref (a 28), .ref (a 29), .ref (a 30), .int 0, .ref (a 32), .ref (a 33), .ref (a 34), .int 0, .ref (a 36), .ref (a 37), .int 0, .int 0, .ref (a 40), .ref (a 41), .int 0, .ref (a 43), .ref (a 44)])), ((a 5), .inl (k 1, 240, .inl (upd f_125 (Int32.toNatClampNeg 3) x_128)))] := hD
      generalize (upd f_125 (Int32.toNatClampNeg 3) x_128) = f_129 at hP hD
      refine lv_aload_n hx hb dX8_feed_63 rfl (lv_at hl 1 rfl) ?_
      refine lv_dup hx hb dX8_feed_64 rfl ?_
      refine va_get (D := D) (ci := 8) (v := .int 3) (C := RX8) (T := TX8) (N := 44) hx hb hts inX8 hown hK hP 0 rfl rfl 5 (by decide) (hts _ tw_978) (fun _ h9 => h9) rfl dX8_feed_65 ?_
      refine lv_iconst (v := 1) hx hb dX8_feed_68 (by decide) ?_
      refine lv_iadd hx hb dX8_feed_69 ?_
      refine lv_ti (y := 4) (by decide) ?_
      refine va_put (D := D) (ci := 8) (v := .int 4) (ty := .int) (C := RX8) (T := TX8) (N := 44) hx hb hts inX8 tyX8 tyX8_ok nmX8 hown hK hP hD hS 0 rfl rfl 5 (by decide) (hts _ tw_978) (fun _ h9 => h9) rfl (by decide +kernel) rfl rfl (Nat.le_of_ble_eq_true rfl) dX8_feed_70 (fun H locs hP hD hS => ?_)
      have hP : va_P D classes [((a 0), .inr (8, [.ref (a 1), .ref (a 2), .ref (a 3), .ref (a 4), .ref (a 5), .int 4, .int (-1), .int 0, .long 0, .int 0, .int 0, .int 0, .int 0, .ref (a 14), .ref (a 15), .ref (a 16), .int 0, .ref (a 18), .ref (a 19), .ref (a 20), .ref (a 21), .ref (a 22), .ref (a 23), .int 0, .ref (a 25), .ref (a 26), .ref (a 27), .ref (a 28), .ref (a 29), .ref (a 30), .int 0, .ref (a 32), .ref (a 33), .ref (a 34), .int 0, .ref (a 36), .ref (a 37), .int 0, .int 0, .ref (a 40), .ref (a 41), .int 0, .ref (a 43), .ref (a 44)])), ((a 5), .inl (k 1, 240, .inl f_129))] H := hP
      have hD : va_D A [((a 0), .inr (8, [.ref (a 1), .ref (a 2), .ref (a 3), .ref (a 4), .ref (a 5), .int 4, .int (-1), .int 0, .long 0, .int 0, .int 0, .int 0, .int 0, .ref (a 14), .ref (a 15), .ref (a 16), .int 0, .ref (a 18), .ref (a 19), .ref (a 20), .ref (a 21), .ref (a 22), .ref (a 23), .int 0, .ref (a 25), .ref (a 26), .ref (a 27), .ref (a 28), .ref (a 29), .ref (a 30), .int 0, .ref (a 32), .ref (a 33), .ref (a 34), .int 0, .ref (a 36), .ref (a 37), .int 0, .int 0, .ref (a 40), .ref (a 41), .int 0, .ref (a 43), .ref (a 44)])), ((a 5), .inl (k 1, 240, .inl f_129))] := hD
      refine lv_iinc (v := 3) (lv' := [(4, .int 3), (0, .ref (a 0)), (1, .int 8), (2, .long p1)]) hx hb dX8_feed_73 hl (k := 0) rfl (by decide) (by decide) rfl (fun ls hl => ?_)
      refine lv_goto (tgt := 37) hx hb dX8_feed_76 (by decide) ?_
      refine lv_iload hx hb dX8_feed_37 (lv_at hl 0 rfl) ?_
      refine lv_if_lt (tgt := 79) hx hb dX8_feed_39 (by decide) (fun h => absurd h (by decide)) (fun _ => ?_)
      refine lv_aload_n hx hb dX8_feed_42 rfl (lv_at hl 1 rfl) ?_
      refine va_get (D := D) (ci := 8) (v := .ref (a 5)) (C := RX8) (T := TX8) (N := 44) hx hb hts inX8 hown hK hP 0 rfl rfl 4 (by decide) (hts _ tw_977) (fun _ h9 => h9) rfl dX8_feed_43 ?_
      refine lv_aload_n hx hb dX8_feed_46 rfl (lv_at hl 1 rfl) ?_
      refine va_get (D := D) (ci := 8) (v := .int 4) (C := RX8) (T := TX8) (N := 44) hx hb hts inX8 hown hK hP 0 rfl rfl 5 (by decide) (hts _ tw_978) (fun _ h9 => h9) rfl dX8_feed_47 ?_
      refine lv_lload_n hx hb dX8_feed_50 rfl (lv_at hl 3 rfl) ?_
      refine lv_bipush (v := 8) hx hb dX8_feed_51 (by decide) ?_
      refine lv_iload hx hb dX8_feed_53 (lv_at hl 0 rfl) ?_
      refine lv_imul hx hb dX8_feed_55 ?_
      refine lv_ti (y := 24) (by decide) ?_
      refine lv_lshr hx hb dX8_feed_56 rfl ?_
      refine lv_topl (fun x_130 ex_130 => ?_)
      refine lv_ldc2 hx hb hown (hts _ tw_1114) dX8_feed_57 ?_
      refine lv_tl (y := ((255 : Int32).toInt64)) (by decide) ?_
      refine lv_land hx hb dX8_feed_60 ?_
      refine lv_topl (fun x_131 ex_131 => ?_)
      refine lv_l2i hx hb dX8_feed_61 rfl ?_
      refine lv_topi (fun x_132 ex_132 => ?_)
      refine va_iast hx hb hK hP hD hS 1 1 rfl rfl (by unfold vp_in; decide) dX8_feed_62 (fun H locs hP hD hS => ?_)
      have hP : va_P D classes [((a 0), .inr (8, [.ref (a 1), .ref (a 2), .ref (a 3), .ref (a 4), .ref (a 5), .int 4, .int (-1), .int 0, .long 0, .int 0, .int 0, .int 0, .int 0, .ref (a 14), .ref (a 15), .ref (a 16), .int 0, .ref (a 18), .ref (a 19), .ref (a 20), .ref (a 21), .ref (a 22), .ref (a 23), .int 0, .ref (a 25), .ref (a 26), .ref (a 27), .ref (a 28), .ref (a 29), .ref (a 30), .int 0, .ref (a 32), .ref (a 33), .ref (a 34), .int 0, .ref (a 36), .ref (a 37), .int 0, .int 0, .ref (a 40), .ref (a 41), .int 0, .ref (a 43), .ref (a 44)])), ((a 5), .inl (k 1, 240, .inl (upd f_129 (Int32.toNatClampNeg 4) x_132)))] H := hP
      have hD : va_D A [((a 0), .inr (8, [.ref (a 1), .ref (a 2), .ref (a 3), .ref (a 4), .ref (a 5), .int 4, .int (-1), .int 0, .long 0, .int 0, .int 0, .int 0, .int 0, .ref (a 14), .ref (a 15), .ref (a 16), .int 0, .ref (a 18), .ref (a 19), .ref (a 20), .ref (a 21), .ref (a 22), .ref (a 23), .int 0, .ref (a 25), .ref (a 26), .ref (a 27), .ref (a 28), .ref (a 29), .ref (a 30), .int 0, .ref (a 32), .ref (a 33), .ref (a 34), .int 0, .ref (a 36), .ref (a 37), .int 0, .int 0, .ref (a 40), .ref (a 41), .int 0, .ref (a 43), .ref (a 44)])), ((a 5), .inl (k 1, 240, .inl (upd f_129 (Int32.toNatClampNeg 4) x_132)))] := hD
      generalize (upd f_129 (Int32.toNatClampNeg 4) x_132) = f_133 at hP hD
      refine lv_aload_n hx hb dX8_feed_63 rfl (lv_at hl 1 rfl) ?_
      refine lv_dup hx hb dX8_feed_64 rfl ?_
      refine va_get (D := D) (ci := 8) (v := .int 4) (C := RX8) (T := TX8) (N := 44) hx hb hts inX8 hown hK hP 0 rfl rfl 5 (by decide) (hts _ tw_978) (fun _ h9 => h9) rfl dX8_feed_65 ?_
      refine lv_iconst (v := 1) hx hb dX8_feed_68 (by decide) ?_
      refine lv_iadd hx hb dX8_feed_69 ?_
      refine lv_ti (y := 5) (by decide) ?_
      refine va_put (D := D) (ci := 8) (v := .int 5) (ty := .int) (C := RX8) (T := TX8) (N := 44) hx hb hts inX8 tyX8 tyX8_ok nmX8 hown hK hP hD hS 0 rfl rfl 5 (by decide) (hts _ tw_978) (fun _ h9 => h9) rfl (by decide +kernel) rfl rfl (Nat.le_of_ble_eq_true rfl) dX8_feed_70 (fun H locs hP hD hS => ?_)
      have hP : va_P D classes [((a 0), .inr (8, [.ref (a 1), .ref (a 2), .ref (a 3), .ref (a 4), .ref (a 5), .int 5, .int (-1), .int 0, .long 0, .int 0, .int 0, .int 0, .int 0, .ref (a 14), .ref (a 15), .ref (a 16), .int 0, .ref (a 18), .ref (a 19), .ref (a 20), .ref (a 21), .ref (a 22), .ref (a 23), .int 0, .ref (a 25), .ref (a 26), .ref (a 27), .ref (a 28), .ref (a 29), .ref (a 30), .int 0, .ref (a 32), .ref (a 33), .ref (a 34), .int 0, .ref (a 36), .ref (a 37), .int 0, .int 0, .ref (a 40), .ref (a 41), .int 0, .ref (a 43), .ref (a 44)])), ((a 5), .inl (k 1, 240, .inl f_133))] H := hP
      have hD : va_D A [((a 0), .inr (8, [.ref (a 1), .ref (a 2), .ref (a 3), .ref (a 4), .ref (a 5), .int 5, .int (-1), .int 0, .long 0, .int 0, .int 0, .int 0, .int 0, .ref (a 14), .ref (a 15), .ref (a 16), .int 0, .ref (a 18), .ref (a 19), .ref (a 20), .ref (a 21), .ref (a 22), .ref (a 23), .int 0, .ref (a 25), .ref (a 26), .ref (a 27), .ref (a 28), .ref (a 29), .ref (a 30), .int 0, .ref (a 32), .ref (a 33), .ref (a 34), .int 0, .ref (a 36), .ref (a 37), .int 0, .int 0, .ref (a 40), .ref (a 41), .int 0, .ref (a 43), .ref (a 44)])), ((a 5), .inl (k 1, 240, .inl f_133))] := hD
      refine lv_iinc (v := 2) (lv' := [(4, .int 2), (0, .ref (a 0)), (1, .int 8), (2, .long p1)]) hx hb dX8_feed_73 hl (k := 0) rfl (by decide) (by decide) rfl (fun ls hl => ?_)
      refine lv_goto (tgt := 37) hx hb dX8_feed_76 (by decide) ?_
      refine lv_iload hx hb dX8_feed_37 (lv_at hl 0 rfl) ?_
      refine lv_if_lt (tgt := 79) hx hb dX8_feed_39 (by decide) (fun h => absurd h (by decide)) (fun _ => ?_)
      refine lv_aload_n hx hb dX8_feed_42 rfl (lv_at hl 1 rfl) ?_
      refine va_get (D := D) (ci := 8) (v := .ref (a 5)) (C := RX8) (T := TX8) (N := 44) hx hb hts inX8 hown hK hP 0 rfl rfl 4 (by decide) (hts _ tw_977) (fun _ h9 => h9) rfl dX8_feed_43 ?_
      refine lv_aload_n hx hb dX8_feed_46 rfl (lv_at hl 1 rfl) ?_
      refine va_get (D := D) (ci := 8) (v := .int 5) (C := RX8) (T := TX8) (N := 44) hx hb hts inX8 hown hK hP 0 rfl rfl 5 (by decide) (hts _ tw_978) (fun _ h9 => h9) rfl dX8_feed_47 ?_
      refine lv_lload_n hx hb dX8_feed_50 rfl (lv_at hl 3 rfl) ?_
      refine lv_bipush (v := 8) hx hb dX8_feed_51 (by decide) ?_
      refine lv_iload hx hb dX8_feed_53 (lv_at hl 0 rfl) ?_
      refine lv_imul hx hb dX8_feed_55 ?_
      refine lv_ti (y := 16) (by decide) ?_
      refine lv_lshr hx hb dX8_feed_56 rfl ?_
      refine lv_topl (fun x_134 ex_134 => ?_)
      refine lv_ldc2 hx hb hown (hts _ tw_1114) dX8_feed_57 ?_
      refine lv_tl (y := ((255 : Int32).toInt64)) (by decide) ?_
      refine lv_land hx hb dX8_feed_60 ?_
      refine lv_topl (fun x_135 ex_135 => ?_)
      refine lv_l2i hx hb dX8_feed_61 rfl ?_
      refine lv_topi (fun x_136 ex_136 => ?_)
      refine va_iast hx hb hK hP hD hS 1 1 rfl rfl (by unfold vp_in; decide) dX8_feed_62 (fun H locs hP hD hS => ?_)
      have hP : va_P D classes [((a 0), .inr (8, [.ref (a 1), .ref (a 2), .ref (a 3), .ref (a 4), .ref (a 5), .int 5, .int (-1), .int 0, .long 0, .int 0, .int 0, .int 0, .int 0, .ref (a 14), .ref (a 15), .ref (a 16), .int 0, .ref (a 18), .ref (a 19), .ref (a 20), .ref (a 21), .ref (a 22), .ref (a 23), .int 0, .ref (a 25), .ref (a 26), .ref (a 27), .ref (a 28), .ref (a 29), .ref (a 30), .int 0, .ref (a 32), .ref (a 33), .ref (a 34), .int 0, .ref (a 36), .ref (a 37), .int 0, .int 0, .ref (a 40), .ref (a 41), .int 0, .ref (a 43), .ref (a 44)])), ((a 5), .inl (k 1, 240, .inl (upd f_133 (Int32.toNatClampNeg 5) x_136)))] H := hP
      have hD : va_D A [((a 0), .inr (8, [.ref (a 1), .ref (a 2), .ref (a 3), .ref (a 4), .ref (a 5), .int 5, .int (-1), .int 0, .long 0, .int 0, .int 0, .int 0, .int 0, .ref (a 14), .ref (a 15), .ref (a 16), .int 0, .ref (a 18), .ref (a 19), .ref (a 20), .ref (a 21), .ref (a 22), .ref (a 23), .int 0, .ref (a 25), .ref (a 26), .ref (a 27), .ref (a 28), .ref (a 29), .ref (a 30), .int 0, .ref (a 32), .ref (a 33), .ref (a 34), .int 0, .ref (a 36), .ref (a 37), .int 0, .int 0, .ref (a 40), .ref (a 41), .int 0, .ref (a 43), .ref (a 44)])), ((a 5), .inl (k 1, 240, .inl (upd f_133 (Int32.toNatClampNeg 5) x_136)))] := hD
      generalize (upd f_133 (Int32.toNatClampNeg 5) x_136) = f_137 at hP hD
      refine lv_aload_n hx hb dX8_feed_63 rfl (lv_at hl 1 rfl) ?_
      refine lv_dup hx hb dX8_feed_64 rfl ?_
      refine va_get (D := D) (ci := 8) (v := .int 5) (C := RX8) (T := TX8) (N := 44) hx hb hts inX8 hown hK hP 0 rfl rfl 5 (by decide) (hts _ tw_978) (fun _ h9 => h9) rfl dX8_feed_65 ?_
      refine lv_iconst (v := 1) hx hb dX8_feed_68 (by decide) ?_
      refine lv_iadd hx hb dX8_feed_69 ?_
      refine lv_ti (y := 6) (by decide) ?_
      refine va_put (D := D) (ci := 8) (v := .int 6) (ty := .int) (C := RX8) (T := TX8) (N := 44) hx hb hts inX8 tyX8 tyX8_ok nmX8 hown hK hP hD hS 0 rfl rfl 5 (by decide) (hts _ tw_978) (fun _ h9 => h9) rfl (by decide +kernel) rfl rfl (Nat.le_of_ble_eq_true rfl) dX8_feed_70 (fun H locs hP hD hS => ?_)
      have hP : va_P D classes [((a 0), .inr (8, [.ref (a 1), .ref (a 2), .ref (a 3), .ref (a 4), .ref (a 5), .int 6, .int (-1), .int 0, .long 0, .int 0, .int 0, .int 0, .int 0, .ref (a 14), .ref (a 15), .ref (a 16), .int 0, .ref (a 18), .ref (a 19), .ref (a 20), .ref (a 21), .ref (a 22), .ref (a 23), .int 0, .ref (a 25), .ref (a 26), .ref (a 27), .ref (a 28), .ref (a 29), .ref (a 30), .int 0, .ref (a 32), .ref (a 33), .ref (a 34), .int 0, .ref (a 36), .ref (a 37), .int 0, .int 0, .ref (a 40), .ref (a 41), .int 0, .ref (a 43), .ref (a 44)])), ((a 5), .inl (k 1, 240, .inl f_137))] H := hP
      have hD : va_D A [((a 0), .inr (8, [.ref (a 1), .ref (a 2), .ref (a 3), .ref (a 4), .ref (a 5), .int 6, .int (-1), .int 0, .long 0, .int 0, .int 0, .int 0, .int 0, .ref (a 14), .ref (a 15), .ref (a 16), .int 0, .ref (a 18), .ref (a 19), .ref (a 20), .ref (a 21), .ref (a 22), .ref (a 23), .int 0, .ref (a 25), .ref (a 26), .ref (a 27), .ref (a 28), .ref (a 29), .ref (a 30), .int 0, .ref (a 32), .ref (a 33), .ref (a 34), .int 0, .ref (a 36), .ref (a 37), .int 0, .int 0, .ref (a 40), .ref (a 41), .int 0, .ref (a 43), .ref (a 44)])), ((a 5), .inl (k 1, 240, .inl f_137))] := hD
      refine lv_iinc (v := 1) (lv' := [(4, .int 1), (0, .ref (a 0)), (1, .int 8), (2, .long p1)]) hx hb dX8_feed_73 hl (k := 0) rfl (by decide) (by decide) rfl (fun ls hl => ?_)
      refine lv_goto (tgt := 37) hx hb dX8_feed_76 (by decide) ?_
      refine lv_iload hx hb dX8_feed_37 (lv_at hl 0 rfl) ?_
      refine lv_if_lt (tgt := 79) hx hb dX8_feed_39 (by decide) (fun h => absurd h (by decide)) (fun _ => ?_)
      refine lv_aload_n hx hb dX8_feed_42 rfl (lv_at hl 1 rfl) ?_
      refine va_get (D := D) (ci := 8) (v := .ref (a 5)) (C := RX8) (T := TX8) (N := 44) hx hb hts inX8 hown hK hP 0 rfl rfl 4 (by decide) (hts _ tw_977) (fun _ h9 => h9) rfl dX8_feed_43 ?_
      refine lv_aload_n hx hb dX8_feed_46 rfl (lv_at hl 1 rfl) ?_
      refine va_get (D := D) (ci := 8) (v := .int 6) (C := RX8) (T := TX8) (N := 44) hx hb hts inX8 hown hK hP 0 rfl rfl 5 (by decide) (hts _ tw_978) (fun _ h9 => h9) rfl dX8_feed_47 ?_
      refine lv_lload_n hx hb dX8_feed_50 rfl (lv_at hl 3 rfl) ?_
      refine lv_bipush (v := 8) hx hb dX8_feed_51 (by decide) ?_
      refine lv_iload hx hb dX8_feed_53 (lv_at hl 0 rfl) ?_
      refine lv_imul hx hb dX8_feed_55 ?_
      refine lv_ti (y := 8) (by decide) ?_
      refine lv_lshr hx hb dX8_feed_56 rfl ?_
      refine lv_topl (fun x_138 ex_138 => ?_)
      refine lv_ldc2 hx hb hown (hts _ tw_1114) dX8_feed_57 ?_
      refine lv_tl (y := ((255 : Int32).toInt64)) (by decide) ?_
      refine lv_land hx hb dX8_feed_60 ?_
      refine lv_topl (fun x_139 ex_139 => ?_)
      refine lv_l2i hx hb dX8_feed_61 rfl ?_
      refine lv_topi (fun x_140 ex_140 => ?_)
      refine va_iast hx hb hK hP hD hS 1 1 rfl rfl (by unfold vp_in; decide) dX8_feed_62 (fun H locs hP hD hS => ?_)
      have hP : va_P D classes [((a 0), .inr (8, [.ref (a 1), .ref (a 2), .ref (a 3), .ref (a 4), .ref (a 5), .int 6, .int (-1), .int 0, .long 0, .int 0, .int 0, .int 0, .int 0, .ref (a 14), .ref (a 15), .ref (a 16), .int 0, .ref (a 18), .ref (a 19), .ref (a 20), .ref (a 21), .ref (a 22), .ref (a 23), .int 0, .ref (a 25), .ref (a 26), .ref (a 27), .ref (a 28), .ref (a 29), .ref (a 30), .int 0, .ref (a 32), .ref (a 33), .ref (a 34), .int 0, .ref (a 36), .ref (a 37), .int 0, .int 0, .ref (a 40), .ref (a 41), .int 0, .ref (a 43), .ref (a 44)])), ((a 5), .inl (k 1, 240, .inl (upd f_137 (Int32.toNatClampNeg 6) x_140)))] H := hP
      have hD : va_D A [((a 0), .inr (8, [.ref (a 1), .ref (a 2), .ref (a 3), .ref (a 4), .ref (a 5), .int 6, .int (-1), .int 0, .long 0, .int 0, .int 0, .int 0, .int 0, .ref (a 14), .ref (a 15), .ref (a 16), .int 0, .ref (a 18), .ref (a 19), .ref (a 20), .ref (a 21), .ref (a 22), .ref (a 23), .int 0, .ref (a 25), .ref (a 26), .ref (a 27), .ref (a 28), .ref (a 29), .ref (a 30), .int 0, .ref (a 32), .ref (a 33), .ref (a 34), .int 0, .ref (a 36), .ref (a 37), .int 0, .int 0, .ref (a 40), .ref (a 41), .int 0, .ref (a 43), .ref (a 44)])), ((a 5), .inl (k 1, 240, .inl (upd f_137 (Int32.toNatClampNeg 6) x_140)))] := hD
      generalize (upd f_137 (Int32.toNatClampNeg 6) x_140) = f_141 at hP hD
      refine lv_aload_n hx hb dX8_feed_63 rfl (lv_at hl 1 rfl) ?_
      refine lv_dup hx hb dX8_feed_64 rfl ?_
      refine va_get (D := D) (ci := 8) (v := .int 6) (C := RX8) (T := TX8) (N := 44) hx hb hts inX8 hown hK hP 0 rfl rfl 5 (by decide) (hts _ tw_978) (fun _ h9 => h9) rfl dX8_feed_65 ?_
      refine lv_iconst (v := 1) hx hb dX8_feed_68 (by decide) ?_
      refine lv_iadd hx hb dX8_feed_69 ?_
      refine lv_ti (y := 7) (by decide) ?_
      refine va_put (D := D) (ci := 8) (v := .int 7) (ty := .int) (C := RX8) (T := TX8) (N := 44) hx hb hts inX8 tyX8 tyX8_ok nmX8 hown hK hP hD hS 0 rfl rfl 5 (by decide) (hts _ tw_978) (fun _ h9 => h9) rfl (by decide +kernel) rfl rfl (Nat.le_of_ble_eq_true rfl) dX8_feed_70 (fun H locs hP hD hS => ?_)
      have hP : va_P D classes [((a 0), .inr (8, [.ref (a 1), .ref (a 2), .ref (a 3), .ref (a 4), .ref (a 5), .int 7, .int (-1), .int 0, .long 0, .int 0, .int 0, .int 0, .int 0, .ref (a 14), .ref (a 15), .ref (a 16), .int 0, .ref (a 18), .ref (a 19), .ref (a 20), .ref (a 21), .ref (a 22), .ref (a 23), .int 0, .ref (a 25), .ref (a 26), .ref (a 27), .ref (a 28), .ref (a 29), .ref (a 30), .int 0, .ref (a 32), .ref (a 33), .ref (a 34), .int 0, .ref (a 36), .ref (a 37), .int 0, .int 0, .ref (a 40), .ref (a 41), .int 0, .ref (a 43), .ref (a 44)])), ((a 5), .inl (k 1, 240, .inl f_141))] H := hP
      have hD : va_D A [((a 0), .inr (8, [.ref (a 1), .ref (a 2), .ref (a 3), .ref (a 4), .ref (a 5), .int 7, .int (-1), .int 0, .long 0, .int 0, .int 0, .int 0, .int 0, .ref (a 14), .ref (a 15), .ref (a 16), .int 0, .ref (a 18), .ref (a 19), .ref (a 20), .ref (a 21), .ref (a 22), .ref (a 23), .int 0, .ref (a 25), .ref (a 26), .ref (a 27), .ref (a 28), .ref (a 29), .ref (a 30), .int 0, .ref (a 32), .ref (a 33), .ref (a 34), .int 0, .ref (a 36), .ref (a 37), .int 0, .int 0, .ref (a 40), .ref (a 41), .int 0, .ref (a 43), .ref (a 44)])), ((a 5), .inl (k 1, 240, .inl f_141))] := hD
      refine lv_iinc (v := 0) (lv' := [(4, .int 0), (0, .ref (a 0)), (1, .int 8), (2, .long p1)]) hx hb dX8_feed_73 hl (k := 0) rfl (by decide) (by decide) rfl (fun ls hl => ?_)
      refine lv_goto (tgt := 37) hx hb dX8_feed_76 (by decide) ?_
      refine lv_iload hx hb dX8_feed_37 (lv_at hl 0 rfl) ?_
      refine lv_if_lt (tgt := 79) hx hb dX8_feed_39 (by decide) (fun h => absurd h (by decide)) (fun _ => ?_)
      refine lv_aload_n hx hb dX8_feed_42 rfl (lv_at hl 1 rfl) ?_
      refine va_get (D := D) (ci := 8) (v := .ref (a 5)) (C := RX8) (T := TX8) (N := 44) hx hb hts inX8 hown hK hP 0 rfl rfl 4 (by decide) (hts _ tw_977) (fun _ h9 => h9) rfl dX8_feed_43 ?_
      refine lv_aload_n hx hb dX8_feed_46 rfl (lv_at hl 1 rfl) ?_
      refine va_get (D := D) (ci := 8) (v := .int 7) (C := RX8) (T := TX8) (N := 44) hx hb hts inX8 hown hK hP 0 rfl rfl 5 (by decide) (hts _ tw_978) (fun _ h9 => h9) rfl dX8_feed_47 ?_
      refine lv_lload_n hx hb dX8_feed_50 rfl (lv_at hl 3 rfl) ?_
      refine lv_bipush (v := 8) hx hb dX8_feed_51 (by decide) ?_
      refine lv_iload hx hb dX8_feed_53 (lv_at hl 0 rfl) ?_
      refine lv_imul hx hb dX8_feed_55 ?_
      refine lv_ti (y := 0) (by decide) ?_
      refine lv_lshr hx hb dX8_feed_56 rfl ?_
      refine lv_topl (fun x_142 ex_142 => ?_)
      refine lv_ldc2 hx hb hown (hts _ tw_1114) dX8_feed_57 ?_
      refine lv_tl (y := ((255 : Int32).toInt64)) (by decide) ?_
      refine lv_land hx hb dX8_feed_60 ?_
      refine lv_topl (fun x_143 ex_143 => ?_)
      refine lv_l2i hx hb dX8_feed_61 rfl ?_
      refine lv_topi (fun x_144 ex_144 => ?_)
      refine va_iast hx hb hK hP hD hS 1 1 rfl rfl (by unfold vp_in; decide) dX8_feed_62 (fun H locs hP hD hS => ?_)
      have hP : va_P D classes [((a 0), .inr (8, [.ref (a 1), .ref (a 2), .ref (a 3), .ref (a 4), .ref (a 5), .int 7, .int (-1), .int 0, .long 0, .int 0, .int 0, .int 0, .int 0, .ref (a 14), .ref (a 15), .ref (a 16), .int 0, .ref (a 18), .ref (a 19), .ref (a 20), .ref (a 21), .ref (a 22), .ref (a 23), .int 0, .ref (a 25), .ref (a 26), .ref (a 27), .ref (a 28), .ref (a 29), .ref (a 30), .int 0, .ref (a 32), .ref (a 33), .ref (a 34), .int 0, .ref (a 36), .ref (a 37), .int 0, .int 0, .ref (a 40), .ref (a 41), .int 0, .ref (a 43), .ref (a 44)])), ((a 5), .inl (k 1, 240, .inl (upd f_141 (Int32.toNatClampNeg 7) x_144)))] H := hP
      have hD : va_D A [((a 0), .inr (8, [.ref (a 1), .ref (a 2), .ref (a 3), .ref (a 4), .ref (a 5), .int 7, .int (-1), .int 0, .long 0, .int 0, .int 0, .int 0, .int 0, .ref (a 14), .ref (a 15), .ref (a 16), .int 0, .ref (a 18), .ref (a 19), .ref (a 20), .ref (a 21), .ref (a 22), .ref (a 23), .int 0, .ref (a 25), .ref (a 26), .ref (a 27), .ref (a 28), .ref (a 29), .ref (a 30), .int 0, .ref (a 32), .ref (a 33), .ref (a 34), .int 0, .ref (a 36), .ref (a 37), .int 0, .int 0, .ref (a 40), .ref (a 41), .int 0, .ref (a 43), .ref (a 44)])), ((a 5), .inl (k 1, 240, .inl (upd f_141 (Int32.toNatClampNeg 7) x_144)))] := hD
      generalize (upd f_141 (Int32.toNatClampNeg 7) x_144) = f_145 at hP hD
      refine lv_aload_n hx hb dX8_feed_63 rfl (lv_at hl 1 rfl) ?_
      refine lv_dup hx hb dX8_feed_64 rfl ?_
      refine va_get (D := D) (ci := 8) (v := .int 7) (C := RX8) (T := TX8) (N := 44) hx hb hts inX8 hown hK hP 0 rfl rfl 5 (by decide) (hts _ tw_978) (fun _ h9 => h9) rfl dX8_feed_65 ?_
      refine lv_iconst (v := 1) hx hb dX8_feed_68 (by decide) ?_
      refine lv_iadd hx hb dX8_feed_69 ?_
      refine lv_ti (y := 8) (by decide) ?_
      refine va_put (D := D) (ci := 8) (v := .int 8) (ty := .int) (C := RX8) (T := TX8) (N := 44) hx hb hts inX8 tyX8 tyX8_ok nmX8 hown hK hP hD hS 0 rfl rfl 5 (by decide) (hts _ tw_978) (fun _ h9 => h9) rfl (by decide +kernel) rfl rfl (Nat.le_of_ble_eq_true rfl) dX8_feed_70 (fun H locs hP hD hS => ?_)
      have hP : va_P D classes [((a 0), .inr (8, [.ref (a 1), .ref (a 2), .ref (a 3), .ref (a 4), .ref (a 5), .int 8, .int (-1), .int 0, .long 0, .int 0, .int 0, .int 0, .int 0, .ref (a 14), .ref (a 15), .ref (a 16), .int 0, .ref (a 18), .ref (a 19), .ref (a 20), .ref (a 21), .ref (a 22), .ref (a 23), .int 0, .ref (a 25), .ref (a 26), .ref (a 27), .ref (a 28), .ref (a 29), .ref (a 30), .int 0, .ref (a 32), .ref (a 33), .ref (a 34), .int 0, .ref (a 36), .ref (a 37), .int 0, .int 0, .ref (a 40), .ref (a 41), .int 0, .ref (a 43), .ref (a 44)])), ((a 5), .inl (k 1, 240, .inl f_145))] H := hP
      have hD : va_D A [((a 0), .inr (8, [.ref (a 1), .ref (a 2), .ref (a 3), .ref (a 4), .ref (a 5), .int 8, .int (-1), .int 0, .long 0, .int 0, .int 0, .int 0, .int 0, .ref (a 14), .ref (a 15), .ref (a 16), .int 0, .ref (a 18), .ref (a 19), .ref (a 20), .ref (a 21), .ref (a 22), .ref (a 23), .int 0, .ref (a 25), .ref (a 26), .ref (a 27), .ref (a 28), .ref (a 29), .ref (a 30), .int 0, .ref (a 32), .ref (a 33), .ref (a 34), .int 0, .ref (a 36), .ref (a 37), .int 0, .int 0, .ref (a 40), .ref (a 41), .int 0, .ref (a 43), .ref (a 44)])), ((a 5), .inl (k 1, 240, .inl f_145))] := hD
      refine lv_iinc (v := (-1)) (lv' := [(4, .int (-1)), (0, .ref (a 0)), (1, .int 8), (2, .long p1)]) hx hb dX8_feed_73 hl (k := 0) rfl (by decide) (by decide) rfl (fun ls hl => ?_)
      refine lv_goto (tgt := 37) hx hb dX8_feed_76 (by decide) ?_
      refine lv_iload hx hb dX8_feed_37 (lv_at hl 0 rfl) ?_
      refine lv_if_lt (tgt := 79) hx hb dX8_feed_39 (by decide) (fun _ => ?_) (fun h => absurd (by decide) h)
      refine lv_aload_n hx hb dX8_feed_79 rfl (lv_at hl 1 rfl) ?_
      refine va_get (D := D) (ci := 8) (v := .int 8) (C := RX8) (T := TX8) (N := 44) hx hb hts inX8 hown hK hP 0 rfl rfl 5 (by decide) (hts _ tw_978) (fun _ h9 => h9) rfl dX8_feed_80 ?_
      have hP9 := hP.sub (ws' := []) [] rfl
      have hD9 := hD.sub (ws' := []) [] (by decide) rfl
      exact W.iret (v := 8) hx hb hr (fun t ht hW => ⟨⟨8, (), rfl, ⟨fun _ => rfl, fun h => absurd ⟨by decide, by decide⟩ h⟩, by rw [ht]; exact hP9, hD9⟩, hS.F ht⟩) hS.2.2 dX8_feed_83
  · refine lv_if_ne (tgt := 16) hx hb dX8_feed_9 (by decide) (fun h => absurd (by decide) h) (fun _ => ?_)
    refine lv_sipush (v := (-1002)) hx hb dX8_feed_12 (by decide) ?_
    have hP9 := hP.sub (ws' := []) [] rfl
    have hD9 := hD.sub (ws' := []) [] (by decide) rfl
    exact W.iret (v := (-1002)) hx hb hr (fun t ht hW => ⟨⟨(-1002), (), rfl, ⟨fun h => absurd h hw_1, fun _ => rfl⟩, by rw [ht]; exact hP9, hD9⟩, hS.F ht⟩) hS.2.2 dX8_feed_15


theorem dX7_feed_0 : decode cX7_feed 0 = .ok (.iload_n 1, 1) := by decide +kernel
theorem dX7_feed_1 : decode cX7_feed 1 = .ok (.iconst 1, 1) := by decide +kernel
theorem dX7_feed_2 : decode cX7_feed 2 = .ok (.if_icmp .lt 9, 3) := by decide +kernel
theorem dX7_feed_5 : decode cX7_feed 5 = .ok (.iload_n 1, 1) := by decide +kernel
theorem dX7_feed_6 : decode cX7_feed 6 = .ok (.bipush 8, 2) := by decide +kernel
theorem dX7_feed_8 : decode cX7_feed 8 = .ok (.if_icmp .le 7, 3) := by decide +kernel
theorem dX7_feed_11 : decode cX7_feed 11 = .ok (.sipush (-1002), 3) := by decide +kernel
theorem dX7_feed_14 : decode cX7_feed 14 = .ok (.ireturn, 1) := by decide +kernel
theorem dX7_feed_15 : decode cX7_feed 15 = .ok (.aload_n 0, 1) := by decide +kernel
theorem dX7_feed_16 : decode cX7_feed 16 = .ok (.getfield 12, 3) := by decide +kernel
theorem dX7_feed_19 : decode cX7_feed 19 = .ok (.getfield 81, 3) := by decide +kernel
theorem dX7_feed_22 : decode cX7_feed 22 = .ok (.iload_n 1, 1) := by decide +kernel
theorem dX7_feed_23 : decode cX7_feed 23 = .ok (.iadd, 1) := by decide +kernel
theorem dX7_feed_24 : decode cX7_feed 24 = .ok (.sipush 240, 3) := by decide +kernel
theorem dX7_feed_27 : decode cX7_feed 27 = .ok (.if_icmp .le 7, 3) := by decide +kernel
theorem dX7_feed_34 : decode cX7_feed 34 = .ok (.iload_n 1, 1) := by decide +kernel
theorem dX7_feed_35 : decode cX7_feed 35 = .ok (.iconst 1, 1) := by decide +kernel
theorem dX7_feed_36 : decode cX7_feed 36 = .ok (.isub, 1) := by decide +kernel
theorem dX7_feed_37 : decode cX7_feed 37 = .ok (.istore 4, 2) := by decide +kernel
theorem dX7_feed_39 : decode cX7_feed 39 = .ok (.iload 4, 2) := by decide +kernel
theorem dX7_feed_41 : decode cX7_feed 41 = .ok (.ifCond .lt 25, 3) := by decide +kernel
theorem dX7_feed_44 : decode cX7_feed 44 = .ok (.aload_n 0, 1) := by decide +kernel
theorem dX7_feed_45 : decode cX7_feed 45 = .ok (.getfield 12, 3) := by decide +kernel
theorem dX7_feed_48 : decode cX7_feed 48 = .ok (.lload_n 2, 1) := by decide +kernel
theorem dX7_feed_49 : decode cX7_feed 49 = .ok (.bipush 8, 2) := by decide +kernel
theorem dX7_feed_51 : decode cX7_feed 51 = .ok (.iload 4, 2) := by decide +kernel
theorem dX7_feed_53 : decode cX7_feed 53 = .ok (.imul, 1) := by decide +kernel
theorem dX7_feed_54 : decode cX7_feed 54 = .ok (.lshr, 1) := by decide +kernel
theorem dX7_feed_55 : decode cX7_feed 55 = .ok (.l2i, 1) := by decide +kernel
theorem dX7_feed_56 : decode cX7_feed 56 = .ok (.i2b, 1) := by decide +kernel
theorem dX7_feed_57 : decode cX7_feed 57 = .ok (.invokevirtual 84, 3) := by decide +kernel
theorem dX7_feed_60 : decode cX7_feed 60 = .ok (.iinc 4 (-1), 3) := by decide +kernel
theorem dX7_feed_63 : decode cX7_feed 63 = .ok (.goto (-24), 3) := by decide +kernel
theorem dX7_feed_66 : decode cX7_feed 66 = .ok (.aload_n 0, 1) := by decide +kernel
theorem dX7_feed_67 : decode cX7_feed 67 = .ok (.getfield 12, 3) := by decide +kernel
theorem dX7_feed_70 : decode cX7_feed 70 = .ok (.getfield 81, 3) := by decide +kernel
theorem dX7_feed_73 : decode cX7_feed 73 = .ok (.ireturn, 1) := by decide +kernel
set_option maxHeartbeats 4000000 in
set_option maxRecDepth 100000 in
theorem k_feed (l : Launch) (D : va_G) (k : Nat → ClassId) (st : Nat → Nat) (lo : Nat) (a : Nat → Nat) (p0 : Int32) (p1 : Int64)  : CWi l D k st lo yX7_feed cX7_feed 5 (some .int) ({ frames := 1, cells := 0, slots := 0, locals := 21 }) 0 0 [.ref (a 0), .int p0, .long p1] [((a 0), .inr (7, [.ref (a 1), .ref (a 3), .ref (a 19), .ref (a 20), .ref (a 25), .int 0, .int (-1), .ref (a 32), .ref (a 35), .ref (a 42), .ref (a 43), .ref (a 44)])), ((a 1), .inr (6, [.ref (a 2), .int 0, .int 0, .int 0, .int 0, .int 0])), ((a 2), .inl (k 0, 240, .inl (fun _ => 0)))] (fun (r : Int32) (_ : Unit) => (inB p0 1 8 → r = p0) ∧ (¬ (inB p0 1 8) → r = -1002)) (fun (_ : Unit) => []) := by
  intro sz
  refine Met.ofW (cc := cX7_feed) (maxL := 5) (ret := (some .int)) (by decide) rfl ?_
  intro p e s m args below meth c s₁ B hml hv
  obtain ⟨rfl, hsz, hlo, hP, hK, hDL, hZ⟩ := hv
  have hx := B.exec
  have hb := B.bytes
  have hr := B.returns
  have hts := WS_ts B.pre
  have hown : s.vm.findClass RX7 = some m.cls := findClass_of_methodNamed B.named
  have hlocks := B.notSynchronized
  subst hsz
  have hD := hDL.self (sz := s.heap.size)
  have hAlo := A_lo hDL hlo
  generalize hAe : va_A [((a 0), .inr (7, [.ref (a 1), .ref (a 3), .ref (a 19), .ref (a 20), .ref (a 25), .int 0, .int (-1), .ref (a 32), .ref (a 35), .ref (a 42), .ref (a 43), .ref (a 44)])), ((a 1), .inr (6, [.ref (a 2), .int 0, .int 0, .int 0, .int 0, .int 0])), ((a 2), .inl (k 0, 240, .inl (fun _ => 0)))] s.heap.size = A at hD hAlo ⊢
  have hA : ∀ q : Nat, s.heap.size ≤ q → A q := fun q h => by rw [← hAe]; exact Or.inr h
  have hS : va_S A s.heap s.heap [] := va_S.rf
  have hl := lv_entry ([.ref (a 0), .int p0, .long p1]) (n := 5) (Nat.le_of_ble_eq_true rfl)
  rw [lg_entry_eq]
  generalize (lg_sl ([.ref (a 0), .int p0, .long p1]) ++ List.replicate (5 - (lg_sl ([.ref (a 0), .int p0, .long p1])).length) Slot.unset).toArray = ls at hl ⊢
  have hl : lv_has ls 5 [(0, .ref (a 0)), (1, .int p0), (2, .long p1)] := hl
  refine lv_iload_n hx hb dX7_feed_0 rfl (lv_at hl 1 rfl) ?_
  refine lv_iconst (v := 1) hx hb dX7_feed_1 (by decide) ?_
  refine lv_icmp_lt (tgt := 11) hx hb dX7_feed_2 (by decide) (fun c_1 => ?_) (fun c_1 => ?_)
  · refine lv_sipush (v := (-1002)) hx hb dX7_feed_11 (by decide) ?_
    have hP9 := hP.sub (ws' := []) [] rfl
    have hD9 := hD.sub (ws' := []) [] (by decide) rfl
    exact W.iret (v := (-1002)) hx hb hr (fun t ht hW => ⟨⟨(-1002), (), rfl, (by first | exact ⟨fun h => absurd c_1 (Int32.not_lt.mpr h.1), fun _ => rfl⟩ | exact ⟨fun h => absurd h.2 c_2, fun _ => rfl⟩), by rw [ht]; exact hP9, hD9⟩, hS.F ht⟩) hS.2.2 dX7_feed_14
  · refine lv_iload_n hx hb dX7_feed_5 rfl (lv_at hl 1 rfl) ?_
    refine lv_bipush (v := 8) hx hb dX7_feed_6 (by decide) ?_
    refine lv_icmp_le (tgt := 15) hx hb dX7_feed_8 (by decide) (fun c_2 => ?_) (fun c_2 => ?_)
    · rcases spl8 ⟨Int32.not_lt.mp c_1, c_2⟩ with rfl | rfl | rfl | rfl | rfl | rfl | rfl | rfl
      · refine lv_aload_n hx hb dX7_feed_15 rfl (lv_at hl 0 rfl) ?_
        refine va_get (D := D) (ci := 7) (v := .ref (a 1)) (C := RX7) (T := TX7) (N := 12) hx hb hts inX7 hown hK hP 0 rfl rfl 0 (by decide) (hts _ tw_305) (fun _ h9 => h9) rfl dX7_feed_16 ?_
        refine va_get (D := D) (ci := 6) (v := .int 0) (C := RX6) (T := TX6) (N := 6) hx hb hts inX6 hown hK hP 1 rfl rfl 1 (by decide) (hts _ tw_111) (fun _ h9 => h9) rfl dX7_feed_19 ?_
        refine lv_iload_n hx hb dX7_feed_22 rfl (lv_at hl 1 rfl) ?_
        refine lv_iadd hx hb dX7_feed_23 ?_
        refine lv_ti (y := 1) (by decide) ?_
        refine lv_sipush (v := 240) hx hb dX7_feed_24 (by decide) ?_
        refine lv_icmp_le (tgt := 34) hx hb dX7_feed_27 (by decide) (fun _ => ?_) (fun h => absurd (by decide) h)
        refine lv_iload_n hx hb dX7_feed_34 rfl (lv_at hl 1 rfl) ?_
        refine lv_iconst (v := 1) hx hb dX7_feed_35 (by decide) ?_
        refine lv_isub hx hb dX7_feed_36 ?_
        refine lv_ti (y := 0) (by decide) ?_
        refine lv_istore (lv' := [(4, .int 0), (0, .ref (a 0)), (1, .int 1), (2, .long p1)]) hx hb dX7_feed_37 hl (by decide) rfl (fun ls hl => ?_)
        refine lv_iload hx hb dX7_feed_39 (lv_at hl 0 rfl) ?_
        refine lv_if_lt (tgt := 66) hx hb dX7_feed_41 (by decide) (fun h => absurd h (by decide)) (fun _ => ?_)
        refine lv_aload_n hx hb dX7_feed_44 rfl (lv_at hl 1 rfl) ?_
        refine va_get (D := D) (ci := 7) (v := .ref (a 1)) (C := RX7) (T := TX7) (N := 12) hx hb hts inX7 hown hK hP 0 rfl rfl 0 (by decide) (hts _ tw_305) (fun _ h9 => h9) rfl dX7_feed_45 ?_
        refine lv_lload_n hx hb dX7_feed_48 rfl (lv_at hl 3 rfl) ?_
        refine lv_bipush (v := 8) hx hb dX7_feed_49 (by decide) ?_
        refine lv_iload hx hb dX7_feed_51 (lv_at hl 0 rfl) ?_
        refine lv_imul hx hb dX7_feed_53 ?_
        refine lv_ti (y := 0) (by decide) ?_
        refine lv_lshr hx hb dX7_feed_54 rfl ?_
        refine lv_topl (fun x_3 ex_3 => ?_)
        refine lv_l2i hx hb dX7_feed_55 rfl ?_
        refine lv_topi (fun x_4 ex_4 => ?_)
        refine lv_i2b hx hb dX7_feed_56 rfl ?_
        refine lv_topi (fun x_5 ex_5 => ?_)
        refine rw_v (D := D) (wr := [((a 0), .inr (7, [.ref (a 1), .ref (a 3), .ref (a 19), .ref (a 20), .ref (a 25), .int 0, .int (-1), .ref (a 32), .ref (a 35), .ref (a 42), .ref (a 43), .ref (a 44)]))]) (va_runV (As := [.int x_5]) (rest := []) ⟨hx, hb, hml, hown, hts⟩ ((k_append l D k st lo (a 1) (a 2) 0 1 x_5 (fun _ => 0) (by decide) (by unfold vp_in; decide) (by decide)) s.heap.size) (cwV 1 hts (gV tw_346 tw_347 tw_348 tw_80 tw_349) rfl rfl rfl (by decide +kernel) ⟨Nat.le_of_ble_eq_true rfl, Nat.le_of_ble_eq_true rfl⟩) (pV hS hAlo hlo hP hK (va_Dlo hD hAlo) hZ [1, 2] (by decide) rfl (ci := 6) (q0 := 0) rfl rfl) rfl rfl hl.1 rfl (lv_room (Nat.le_of_ble_eq_true rfl)) dX7_feed_57 ⟨Nat.le_of_ble_eq_true rfl, Nat.le_of_ble_eq_true rfl⟩) hS hA hP hD [1, 2] [0] rfl rfl (by decide) (by decide) (fun u H locs hw_6 hP hD hS => ?_)
        obtain ⟨g_6, rfl⟩ : ∃ z, z = u := ⟨_, rfl⟩
        have hP : va_P D classes [((a 0), .inr (7, [.ref (a 1), .ref (a 3), .ref (a 19), .ref (a 20), .ref (a 25), .int 0, .int (-1), .ref (a 32), .ref (a 35), .ref (a 42), .ref (a 43), .ref (a 44)])), ((a 1), .inr (6, [.ref (a 2), .int 1, .int 0, .int 0, .int 0, .int 0])), ((a 2), .inl (k 0, 240, .inl g_6))] H := hP
        have hD : va_D A [((a 0), .inr (7, [.ref (a 1), .ref (a 3), .ref (a 19), .ref (a 20), .ref (a 25), .int 0, .int (-1), .ref (a 32), .ref (a 35), .ref (a 42), .ref (a 43), .ref (a 44)])), ((a 1), .inr (6, [.ref (a 2), .int 1, .int 0, .int 0, .int 0, .int 0])), ((a 2), .inl (k 0, 240, .inl g_6))] := hD
        try dsimp only at hw_6
        refine lv_iinc (v := (-1)) (lv' := [(4, .int (-1)), (0, .ref (a 0)), (1, .int 1), (2, .long p1)]) hx hb dX7_feed_60 hl (k := 0) rfl (by decide) (by decide) rfl (fun ls hl => ?_)
        refine lv_goto (tgt := 39) hx hb dX7_feed_63 (by decide) ?_
        refine lv_iload hx hb dX7_feed_39 (lv_at hl 0 rfl) ?_
        refine lv_if_lt (tgt := 66) hx hb dX7_feed_41 (by decide) (fun _ => ?_) (fun h => absurd (by decide) h)
        refine lv_aload_n hx hb dX7_feed_66 rfl (lv_at hl 1 rfl) ?_
        refine va_get (D := D) (ci := 7) (v := .ref (a 1)) (C := RX7) (T := TX7) (N := 12) hx hb hts inX7 hown hK hP 0 rfl rfl 0 (by decide) (hts _ tw_305) (fun _ h9 => h9) rfl dX7_feed_67 ?_
        refine va_get (D := D) (ci := 6) (v := .int 1) (C := RX6) (T := TX6) (N := 6) hx hb hts inX6 hown hK hP 1 rfl rfl 1 (by decide) (hts _ tw_111) (fun _ h9 => h9) rfl dX7_feed_70 ?_
        have hP9 := hP.sub (ws' := []) [] rfl
        have hD9 := hD.sub (ws' := []) [] (by decide) rfl
        exact W.iret (v := 1) hx hb hr (fun t ht hW => ⟨⟨1, (), rfl, ⟨fun _ => rfl, fun h => absurd ⟨by decide, by decide⟩ h⟩, by rw [ht]; exact hP9, hD9⟩, hS.F ht⟩) hS.2.2 dX7_feed_73
      · refine lv_aload_n hx hb dX7_feed_15 rfl (lv_at hl 0 rfl) ?_
        refine va_get (D := D) (ci := 7) (v := .ref (a 1)) (C := RX7) (T := TX7) (N := 12) hx hb hts inX7 hown hK hP 0 rfl rfl 0 (by decide) (hts _ tw_305) (fun _ h9 => h9) rfl dX7_feed_16 ?_
        refine va_get (D := D) (ci := 6) (v := .int 0) (C := RX6) (T := TX6) (N := 6) hx hb hts inX6 hown hK hP 1 rfl rfl 1 (by decide) (hts _ tw_111) (fun _ h9 => h9) rfl dX7_feed_19 ?_
        refine lv_iload_n hx hb dX7_feed_22 rfl (lv_at hl 1 rfl) ?_
        refine lv_iadd hx hb dX7_feed_23 ?_
        refine lv_ti (y := 2) (by decide) ?_
        refine lv_sipush (v := 240) hx hb dX7_feed_24 (by decide) ?_
        refine lv_icmp_le (tgt := 34) hx hb dX7_feed_27 (by decide) (fun _ => ?_) (fun h => absurd (by decide) h)
        refine lv_iload_n hx hb dX7_feed_34 rfl (lv_at hl 1 rfl) ?_
        refine lv_iconst (v := 1) hx hb dX7_feed_35 (by decide) ?_
        refine lv_isub hx hb dX7_feed_36 ?_
        refine lv_ti (y := 1) (by decide) ?_
        refine lv_istore (lv' := [(4, .int 1), (0, .ref (a 0)), (1, .int 2), (2, .long p1)]) hx hb dX7_feed_37 hl (by decide) rfl (fun ls hl => ?_)
        refine lv_iload hx hb dX7_feed_39 (lv_at hl 0 rfl) ?_
        refine lv_if_lt (tgt := 66) hx hb dX7_feed_41 (by decide) (fun h => absurd h (by decide)) (fun _ => ?_)
        refine lv_aload_n hx hb dX7_feed_44 rfl (lv_at hl 1 rfl) ?_
        refine va_get (D := D) (ci := 7) (v := .ref (a 1)) (C := RX7) (T := TX7) (N := 12) hx hb hts inX7 hown hK hP 0 rfl rfl 0 (by decide) (hts _ tw_305) (fun _ h9 => h9) rfl dX7_feed_45 ?_
        refine lv_lload_n hx hb dX7_feed_48 rfl (lv_at hl 3 rfl) ?_
        refine lv_bipush (v := 8) hx hb dX7_feed_49 (by decide) ?_
        refine lv_iload hx hb dX7_feed_51 (lv_at hl 0 rfl) ?_
        refine lv_imul hx hb dX7_feed_53 ?_
        refine lv_ti (y := 8) (by decide) ?_
        refine lv_lshr hx hb dX7_feed_54 rfl ?_
        refine lv_topl (fun x_7 ex_7 => ?_)
        refine lv_l2i hx hb dX7_feed_55 rfl ?_
        refine lv_topi (fun x_8 ex_8 => ?_)
        refine lv_i2b hx hb dX7_feed_56 rfl ?_
        refine lv_topi (fun x_9 ex_9 => ?_)
        refine rw_v (D := D) (wr := [((a 0), .inr (7, [.ref (a 1), .ref (a 3), .ref (a 19), .ref (a 20), .ref (a 25), .int 0, .int (-1), .ref (a 32), .ref (a 35), .ref (a 42), .ref (a 43), .ref (a 44)]))]) (va_runV (As := [.int x_9]) (rest := []) ⟨hx, hb, hml, hown, hts⟩ ((k_append l D k st lo (a 1) (a 2) 0 1 x_9 (fun _ => 0) (by decide) (by unfold vp_in; decide) (by decide)) s.heap.size) (cwV 1 hts (gV tw_346 tw_347 tw_348 tw_80 tw_349) rfl rfl rfl (by decide +kernel) ⟨Nat.le_of_ble_eq_true rfl, Nat.le_of_ble_eq_true rfl⟩) (pV hS hAlo hlo hP hK (va_Dlo hD hAlo) hZ [1, 2] (by decide) rfl (ci := 6) (q0 := 0) rfl rfl) rfl rfl hl.1 rfl (lv_room (Nat.le_of_ble_eq_true rfl)) dX7_feed_57 ⟨Nat.le_of_ble_eq_true rfl, Nat.le_of_ble_eq_true rfl⟩) hS hA hP hD [1, 2] [0] rfl rfl (by decide) (by decide) (fun u H locs hw_10 hP hD hS => ?_)
        obtain ⟨g_10, rfl⟩ : ∃ z, z = u := ⟨_, rfl⟩
        have hP : va_P D classes [((a 0), .inr (7, [.ref (a 1), .ref (a 3), .ref (a 19), .ref (a 20), .ref (a 25), .int 0, .int (-1), .ref (a 32), .ref (a 35), .ref (a 42), .ref (a 43), .ref (a 44)])), ((a 1), .inr (6, [.ref (a 2), .int 1, .int 0, .int 0, .int 0, .int 0])), ((a 2), .inl (k 0, 240, .inl g_10))] H := hP
        have hD : va_D A [((a 0), .inr (7, [.ref (a 1), .ref (a 3), .ref (a 19), .ref (a 20), .ref (a 25), .int 0, .int (-1), .ref (a 32), .ref (a 35), .ref (a 42), .ref (a 43), .ref (a 44)])), ((a 1), .inr (6, [.ref (a 2), .int 1, .int 0, .int 0, .int 0, .int 0])), ((a 2), .inl (k 0, 240, .inl g_10))] := hD
        try dsimp only at hw_10
        refine lv_iinc (v := 0) (lv' := [(4, .int 0), (0, .ref (a 0)), (1, .int 2), (2, .long p1)]) hx hb dX7_feed_60 hl (k := 0) rfl (by decide) (by decide) rfl (fun ls hl => ?_)
        refine lv_goto (tgt := 39) hx hb dX7_feed_63 (by decide) ?_
        refine lv_iload hx hb dX7_feed_39 (lv_at hl 0 rfl) ?_
        refine lv_if_lt (tgt := 66) hx hb dX7_feed_41 (by decide) (fun h => absurd h (by decide)) (fun _ => ?_)
        refine lv_aload_n hx hb dX7_feed_44 rfl (lv_at hl 1 rfl) ?_
        refine va_get (D := D) (ci := 7) (v := .ref (a 1)) (C := RX7) (T := TX7) (N := 12) hx hb hts inX7 hown hK hP 0 rfl rfl 0 (by decide) (hts _ tw_305) (fun _ h9 => h9) rfl dX7_feed_45 ?_
        refine lv_lload_n hx hb dX7_feed_48 rfl (lv_at hl 3 rfl) ?_
        refine lv_bipush (v := 8) hx hb dX7_feed_49 (by decide) ?_
        refine lv_iload hx hb dX7_feed_51 (lv_at hl 0 rfl) ?_
        refine lv_imul hx hb dX7_feed_53 ?_
        refine lv_ti (y := 0) (by decide) ?_
        refine lv_lshr hx hb dX7_feed_54 rfl ?_
        refine lv_topl (fun x_11 ex_11 => ?_)
        refine lv_l2i hx hb dX7_feed_55 rfl ?_
        refine lv_topi (fun x_12 ex_12 => ?_)
        refine lv_i2b hx hb dX7_feed_56 rfl ?_
        refine lv_topi (fun x_13 ex_13 => ?_)
        refine rw_v (D := D) (wr := [((a 0), .inr (7, [.ref (a 1), .ref (a 3), .ref (a 19), .ref (a 20), .ref (a 25), .int 0, .int (-1), .ref (a 32), .ref (a 35), .ref (a 42), .ref (a 43), .ref (a 44)]))]) (va_runV (As := [.int x_13]) (rest := []) ⟨hx, hb, hml, hown, hts⟩ ((k_append l D k st lo (a 1) (a 2) 1 2 x_13 g_10 (by decide) (by unfold vp_in; decide) (by decide)) H.size) (cwV 1 hts (gV tw_346 tw_347 tw_348 tw_80 tw_349) rfl rfl rfl (by decide +kernel) ⟨Nat.le_of_ble_eq_true rfl, Nat.le_of_ble_eq_true rfl⟩) (pV hS hAlo hlo hP hK (va_Dlo hD hAlo) hZ [1, 2] (by decide) rfl (ci := 6) (q0 := 0) rfl rfl) rfl rfl hl.1 rfl (lv_room (Nat.le_of_ble_eq_true rfl)) dX7_feed_57 ⟨Nat.le_of_ble_eq_true rfl, Nat.le_of_ble_eq_true rfl⟩) hS hA hP hD [1, 2] [0] rfl rfl (by decide) (by decide) (fun u H locs hw_14 hP hD hS => ?_)
        obtain ⟨g_14, rfl⟩ : ∃ z, z = u := ⟨_, rfl⟩
        have hP : va_P D classes [((a 0), .inr (7, [.ref (a 1), .ref (a 3), .ref (a 19), .ref (a 20), .ref (a 25), .int 0, .int (-1), .ref (a 32), .ref (a 35), .ref (a 42), .ref (a 43), .ref (a 44)])), ((a 1), .inr (6, [.ref (a 2), .int 2, .int 0, .int 0, .int 0, .int 0])), ((a 2), .inl (k 0, 240, .inl g_14))] H := hP
        have hD : va_D A [((a 0), .inr (7, [.ref (a 1), .ref (a 3), .ref (a 19), .ref (a 20), .ref (a 25), .int 0, .int (-1), .ref (a 32), .ref (a 35), .ref (a 42), .ref (a 43), .ref (a 44)])), ((a 1), .inr (6, [.ref (a 2), .int 2, .int 0, .int 0, .int 0, .int 0])), ((a 2), .inl (k 0, 240, .inl g_14))] := hD
        try dsimp only at hw_14
        refine lv_iinc (v := (-1)) (lv' := [(4, .int (-1)), (0, .ref (a 0)), (1, .int 2), (2, .long p1)]) hx hb dX7_feed_60 hl (k := 0) rfl (by decide) (by decide) rfl (fun ls hl => ?_)
        refine lv_goto (tgt := 39) hx hb dX7_feed_63 (by decide) ?_
        refine lv_iload hx hb dX7_feed_39 (lv_at hl 0 rfl) ?_
        refine lv_if_lt (tgt := 66) hx hb dX7_feed_41 (by decide) (fun _ => ?_) (fun h => absurd (by decide) h)
        refine lv_aload_n hx hb dX7_feed_66 rfl (lv_at hl 1 rfl) ?_
        refine va_get (D := D) (ci := 7) (v := .ref (a 1)) (C := RX7) (T := TX7) (N := 12) hx hb hts inX7 hown hK hP 0 rfl rfl 0 (by decide) (hts _ tw_305) (fun _ h9 => h9) rfl dX7_feed_67 ?_
        refine va_get (D := D) (ci := 6) (v := .int 2) (C := RX6) (T := TX6) (N := 6) hx hb hts inX6 hown hK hP 1 rfl rfl 1 (by decide) (hts _ tw_111) (fun _ h9 => h9) rfl dX7_feed_70 ?_
        have hP9 := hP.sub (ws' := []) [] rfl
        have hD9 := hD.sub (ws' := []) [] (by decide) rfl
        exact W.iret (v := 2) hx hb hr (fun t ht hW => ⟨⟨2, (), rfl, ⟨fun _ => rfl, fun h => absurd ⟨by decide, by decide⟩ h⟩, by rw [ht]; exact hP9, hD9⟩, hS.F ht⟩) hS.2.2 dX7_feed_73
      · refine lv_aload_n hx hb dX7_feed_15 rfl (lv_at hl 0 rfl) ?_
        refine va_get (D := D) (ci := 7) (v := .ref (a 1)) (C := RX7) (T := TX7) (N := 12) hx hb hts inX7 hown hK hP 0 rfl rfl 0 (by decide) (hts _ tw_305) (fun _ h9 => h9) rfl dX7_feed_16 ?_
        refine va_get (D := D) (ci := 6) (v := .int 0) (C := RX6) (T := TX6) (N := 6) hx hb hts inX6 hown hK hP 1 rfl rfl 1 (by decide) (hts _ tw_111) (fun _ h9 => h9) rfl dX7_feed_19 ?_
        refine lv_iload_n hx hb dX7_feed_22 rfl (lv_at hl 1 rfl) ?_
        refine lv_iadd hx hb dX7_feed_23 ?_
        refine lv_ti (y := 3) (by decide) ?_
        refine lv_sipush (v := 240) hx hb dX7_feed_24 (by decide) ?_
        refine lv_icmp_le (tgt := 34) hx hb dX7_feed_27 (by decide) (fun _ => ?_) (fun h => absurd (by decide) h)
        refine lv_iload_n hx hb dX7_feed_34 rfl (lv_at hl 1 rfl) ?_
        refine lv_iconst (v := 1) hx hb dX7_feed_35 (by decide) ?_
        refine lv_isub hx hb dX7_feed_36 ?_
        refine lv_ti (y := 2) (by decide) ?_
        refine lv_istore (lv' := [(4, .int 2), (0, .ref (a 0)), (1, .int 3), (2, .long p1)]) hx hb dX7_feed_37 hl (by decide) rfl (fun ls hl => ?_)
        refine lv_iload hx hb dX7_feed_39 (lv_at hl 0 rfl) ?_
        refine lv_if_lt (tgt := 66) hx hb dX7_feed_41 (by decide) (fun h => absurd h (by decide)) (fun _ => ?_)
        refine lv_aload_n hx hb dX7_feed_44 rfl (lv_at hl 1 rfl) ?_
        refine va_get (D := D) (ci := 7) (v := .ref (a 1)) (C := RX7) (T := TX7) (N := 12) hx hb hts inX7 hown hK hP 0 rfl rfl 0 (by decide) (hts _ tw_305) (fun _ h9 => h9) rfl dX7_feed_45 ?_
        refine lv_lload_n hx hb dX7_feed_48 rfl (lv_at hl 3 rfl) ?_
        refine lv_bipush (v := 8) hx hb dX7_feed_49 (by decide) ?_
        refine lv_iload hx hb dX7_feed_51 (lv_at hl 0 rfl) ?_
        refine lv_imul hx hb dX7_feed_53 ?_
        refine lv_ti (y := 16) (by decide) ?_
        refine lv_lshr hx hb dX7_feed_54 rfl ?_
        refine lv_topl (fun x_15 ex_15 => ?_)
        refine lv_l2i hx hb dX7_feed_55 rfl ?_
        refine lv_topi (fun x_16 ex_16 => ?_)
        refine lv_i2b hx hb dX7_feed_56 rfl ?_
        refine lv_topi (fun x_17 ex_17 => ?_)
        refine rw_v (D := D) (wr := [((a 0), .inr (7, [.ref (a 1), .ref (a 3), .ref (a 19), .ref (a 20), .ref (a 25), .int 0, .int (-1), .ref (a 32), .ref (a 35), .ref (a 42), .ref (a 43), .ref (a 44)]))]) (va_runV (As := [.int x_17]) (rest := []) ⟨hx, hb, hml, hown, hts⟩ ((k_append l D k st lo (a 1) (a 2) 0 1 x_17 (fun _ => 0) (by decide) (by unfold vp_in; decide) (by decide)) s.heap.size) (cwV 1 hts (gV tw_346 tw_347 tw_348 tw_80 tw_349) rfl rfl rfl (by decide +kernel) ⟨Nat.le_of_ble_eq_true rfl, Nat.le_of_ble_eq_true rfl⟩) (pV hS hAlo hlo hP hK (va_Dlo hD hAlo) hZ [1, 2] (by decide) rfl (ci := 6) (q0 := 0) rfl rfl) rfl rfl hl.1 rfl (lv_room (Nat.le_of_ble_eq_true rfl)) dX7_feed_57 ⟨Nat.le_of_ble_eq_true rfl, Nat.le_of_ble_eq_true rfl⟩) hS hA hP hD [1, 2] [0] rfl rfl (by decide) (by decide) (fun u H locs hw_18 hP hD hS => ?_)
        obtain ⟨g_18, rfl⟩ : ∃ z, z = u := ⟨_, rfl⟩
        have hP : va_P D classes [((a 0), .inr (7, [.ref (a 1), .ref (a 3), .ref (a 19), .ref (a 20), .ref (a 25), .int 0, .int (-1), .ref (a 32), .ref (a 35), .ref (a 42), .ref (a 43), .ref (a 44)])), ((a 1), .inr (6, [.ref (a 2), .int 1, .int 0, .int 0, .int 0, .int 0])), ((a 2), .inl (k 0, 240, .inl g_18))] H := hP
        have hD : va_D A [((a 0), .inr (7, [.ref (a 1), .ref (a 3), .ref (a 19), .ref (a 20), .ref (a 25), .int 0, .int (-1), .ref (a 32), .ref (a 35), .ref (a 42), .ref (a 43), .ref (a 44)])), ((a 1), .inr (6, [.ref (a 2), .int 1, .int 0, .int 0, .int 0, .int 0])), ((a 2), .inl (k 0, 240, .inl g_18))] := hD
        try dsimp only at hw_18
        refine lv_iinc (v := 1) (lv' := [(4, .int 1), (0, .ref (a 0)), (1, .int 3), (2, .long p1)]) hx hb dX7_feed_60 hl (k := 0) rfl (by decide) (by decide) rfl (fun ls hl => ?_)
        refine lv_goto (tgt := 39) hx hb dX7_feed_63 (by decide) ?_
        refine lv_iload hx hb dX7_feed_39 (lv_at hl 0 rfl) ?_
        refine lv_if_lt (tgt := 66) hx hb dX7_feed_41 (by decide) (fun h => absurd h (by decide)) (fun _ => ?_)
        refine lv_aload_n hx hb dX7_feed_44 rfl (lv_at hl 1 rfl) ?_
        refine va_get (D := D) (ci := 7) (v := .ref (a 1)) (C := RX7) (T := TX7) (N := 12) hx hb hts inX7 hown hK hP 0 rfl rfl 0 (by decide) (hts _ tw_305) (fun _ h9 => h9) rfl dX7_feed_45 ?_
        refine lv_lload_n hx hb dX7_feed_48 rfl (lv_at hl 3 rfl) ?_
        refine lv_bipush (v := 8) hx hb dX7_feed_49 (by decide) ?_
        refine lv_iload hx hb dX7_feed_51 (lv_at hl 0 rfl) ?_
        refine lv_imul hx hb dX7_feed_53 ?_
        refine lv_ti (y := 8) (by decide) ?_
        refine lv_lshr hx hb dX7_feed_54 rfl ?_
        refine lv_topl (fun x_19 ex_19 => ?_)
        refine lv_l2i hx hb dX7_feed_55 rfl ?_
        refine lv_topi (fun x_20 ex_20 => ?_)
        refine lv_i2b hx hb dX7_feed_56 rfl ?_
        refine lv_topi (fun x_21 ex_21 => ?_)
        refine rw_v (D := D) (wr := [((a 0), .inr (7, [.ref (a 1), .ref (a 3), .ref (a 19), .ref (a 20), .ref (a 25), .int 0, .int (-1), .ref (a 32), .ref (a 35), .ref (a 42), .ref (a 43), .ref (a 44)]))]) (va_runV (As := [.int x_21]) (rest := []) ⟨hx, hb, hml, hown, hts⟩ ((k_append l D k st lo (a 1) (a 2) 1 2 x_21 g_18 (by decide) (by unfold vp_in; decide) (by decide)) H.size) (cwV 1 hts (gV tw_346 tw_347 tw_348 tw_80 tw_349) rfl rfl rfl (by decide +kernel) ⟨Nat.le_of_ble_eq_true rfl, Nat.le_of_ble_eq_true rfl⟩) (pV hS hAlo hlo hP hK (va_Dlo hD hAlo) hZ [1, 2] (by decide) rfl (ci := 6) (q0 := 0) rfl rfl) rfl rfl hl.1 rfl (lv_room (Nat.le_of_ble_eq_true rfl)) dX7_feed_57 ⟨Nat.le_of_ble_eq_true rfl, Nat.le_of_ble_eq_true rfl⟩) hS hA hP hD [1, 2] [0] rfl rfl (by decide) (by decide) (fun u H locs hw_22 hP hD hS => ?_)
        obtain ⟨g_22, rfl⟩ : ∃ z, z = u := ⟨_, rfl⟩
        have hP : va_P D classes [((a 0), .inr (7, [.ref (a 1), .ref (a 3), .ref (a 19), .ref (a 20), .ref (a 25), .int 0, .int (-1), .ref (a 32), .ref (a 35), .ref (a 42), .ref (a 43), .ref (a 44)])), ((a 1), .inr (6, [.ref (a 2), .int 2, .int 0, .int 0, .int 0, .int 0])), ((a 2), .inl (k 0, 240, .inl g_22))] H := hP
        have hD : va_D A [((a 0), .inr (7, [.ref (a 1), .ref (a 3), .ref (a 19), .ref (a 20), .ref (a 25), .int 0, .int (-1), .ref (a 32), .ref (a 35), .ref (a 42), .ref (a 43), .ref (a 44)])), ((a 1), .inr (6, [.ref (a 2), .int 2, .int 0, .int 0, .int 0, .int 0])), ((a 2), .inl (k 0, 240, .inl g_22))] := hD
        try dsimp only at hw_22
        refine lv_iinc (v := 0) (lv' := [(4, .int 0), (0, .ref (a 0)), (1, .int 3), (2, .long p1)]) hx hb dX7_feed_60 hl (k := 0) rfl (by decide) (by decide) rfl (fun ls hl => ?_)
        refine lv_goto (tgt := 39) hx hb dX7_feed_63 (by decide) ?_
        refine lv_iload hx hb dX7_feed_39 (lv_at hl 0 rfl) ?_
        refine lv_if_lt (tgt := 66) hx hb dX7_feed_41 (by decide) (fun h => absurd h (by decide)) (fun _ => ?_)
        refine lv_aload_n hx hb dX7_feed_44 rfl (lv_at hl 1 rfl) ?_
        refine va_get (D := D) (ci := 7) (v := .ref (a 1)) (C := RX7) (T := TX7) (N := 12) hx hb hts inX7 hown hK hP 0 rfl rfl 0 (by decide) (hts _ tw_305) (fun _ h9 => h9) rfl dX7_feed_45 ?_
        refine lv_lload_n hx hb dX7_feed_48 rfl (lv_at hl 3 rfl) ?_
        refine lv_bipush (v := 8) hx hb dX7_feed_49 (by decide) ?_
        refine lv_iload hx hb dX7_feed_51 (lv_at hl 0 rfl) ?_
        refine lv_imul hx hb dX7_feed_53 ?_
        refine lv_ti (y := 0) (by decide) ?_
        refine lv_lshr hx hb dX7_feed_54 rfl ?_
        refine lv_topl (fun x_23 ex_23 => ?_)
        refine lv_l2i hx hb dX7_feed_55 rfl ?_
        refine lv_topi (fun x_24 ex_24 => ?_)
        refine lv_i2b hx hb dX7_feed_56 rfl ?_
        refine lv_topi (fun x_25 ex_25 => ?_)
        refine rw_v (D := D) (wr := [((a 0), .inr (7, [.ref (a 1), .ref (a 3), .ref (a 19), .ref (a 20), .ref (a 25), .int 0, .int (-1), .ref (a 32), .ref (a 35), .ref (a 42), .ref (a 43), .ref (a 44)]))]) (va_runV (As := [.int x_25]) (rest := []) ⟨hx, hb, hml, hown, hts⟩ ((k_append l D k st lo (a 1) (a 2) 2 3 x_25 g_22 (by decide) (by unfold vp_in; decide) (by decide)) H.size) (cwV 1 hts (gV tw_346 tw_347 tw_348 tw_80 tw_349) rfl rfl rfl (by decide +kernel) ⟨Nat.le_of_ble_eq_true rfl, Nat.le_of_ble_eq_true rfl⟩) (pV hS hAlo hlo hP hK (va_Dlo hD hAlo) hZ [1, 2] (by decide) rfl (ci := 6) (q0 := 0) rfl rfl) rfl rfl hl.1 rfl (lv_room (Nat.le_of_ble_eq_true rfl)) dX7_feed_57 ⟨Nat.le_of_ble_eq_true rfl, Nat.le_of_ble_eq_true rfl⟩) hS hA hP hD [1, 2] [0] rfl rfl (by decide) (by decide) (fun u H locs hw_26 hP hD hS => ?_)
        obtain ⟨g_26, rfl⟩ : ∃ z, z = u := ⟨_, rfl⟩
        have hP : va_P D classes [((a 0), .inr (7, [.ref (a 1), .ref (a 3), .ref (a 19), .ref (a 20), .ref (a 25), .int 0, .int (-1), .ref (a 32), .ref (a 35), .ref (a 42), .ref (a 43), .ref (a 44)])), ((a 1), .inr (6, [.ref (a 2), .int 3, .int 0, .int 0, .int 0, .int 0])), ((a 2), .inl (k 0, 240, .inl g_26))] H := hP
        have hD : va_D A [((a 0), .inr (7, [.ref (a 1), .ref (a 3), .ref (a 19), .ref (a 20), .ref (a 25), .int 0, .int (-1), .ref (a 32), .ref (a 35), .ref (a 42), .ref (a 43), .ref (a 44)])), ((a 1), .inr (6, [.ref (a 2), .int 3, .int 0, .int 0, .int 0, .int 0])), ((a 2), .inl (k 0, 240, .inl g_26))] := hD
        try dsimp only at hw_26
        refine lv_iinc (v := (-1)) (lv' := [(4, .int (-1)), (0, .ref (a 0)), (1, .int 3), (2, .long p1)]) hx hb dX7_feed_60 hl (k := 0) rfl (by decide) (by decide) rfl (fun ls hl => ?_)
        refine lv_goto (tgt := 39) hx hb dX7_feed_63 (by decide) ?_
        refine lv_iload hx hb dX7_feed_39 (lv_at hl 0 rfl) ?_
        refine lv_if_lt (tgt := 66) hx hb dX7_feed_41 (by decide) (fun _ => ?_) (fun h => absurd (by decide) h)
        refine lv_aload_n hx hb dX7_feed_66 rfl (lv_at hl 1 rfl) ?_
        refine va_get (D := D) (ci := 7) (v := .ref (a 1)) (C := RX7) (T := TX7) (N := 12) hx hb hts inX7 hown hK hP 0 rfl rfl 0 (by decide) (hts _ tw_305) (fun _ h9 => h9) rfl dX7_feed_67 ?_
        refine va_get (D := D) (ci := 6) (v := .int 3) (C := RX6) (T := TX6) (N := 6) hx hb hts inX6 hown hK hP 1 rfl rfl 1 (by decide) (hts _ tw_111) (fun _ h9 => h9) rfl dX7_feed_70 ?_
        have hP9 := hP.sub (ws' := []) [] rfl
        have hD9 := hD.sub (ws' := []) [] (by decide) rfl
        exact W.iret (v := 3) hx hb hr (fun t ht hW => ⟨⟨3, (), rfl, ⟨fun _ => rfl, fun h => absurd ⟨by decide, by decide⟩ h⟩, by rw [ht]; exact hP9, hD9⟩, hS.F ht⟩) hS.2.2 dX7_feed_73
      · refine lv_aload_n hx hb dX7_feed_15 rfl (lv_at hl 0 rfl) ?_
        refine va_get (D := D) (ci := 7) (v := .ref (a 1)) (C := RX7) (T := TX7) (N := 12) hx hb hts inX7 hown hK hP 0 rfl rfl 0 (by decide) (hts _ tw_305) (fun _ h9 => h9) rfl dX7_feed_16 ?_
        refine va_get (D := D) (ci := 6) (v := .int 0) (C := RX6) (T := TX6) (N := 6) hx hb hts inX6 hown hK hP 1 rfl rfl 1 (by decide) (hts _ tw_111) (fun _ h9 => h9) rfl dX7_feed_19 ?_
        refine lv_iload_n hx hb dX7_feed_22 rfl (lv_at hl 1 rfl) ?_
        refine lv_iadd hx hb dX7_feed_23 ?_
        refine lv_ti (y := 4) (by decide) ?_
        refine lv_sipush (v := 240) hx hb dX7_feed_24 (by decide) ?_
        refine lv_icmp_le (tgt := 34) hx hb dX7_feed_27 (by decide) (fun _ => ?_) (fun h => absurd (by decide) h)
        refine lv_iload_n hx hb dX7_feed_34 rfl (lv_at hl 1 rfl) ?_
        refine lv_iconst (v := 1) hx hb dX7_feed_35 (by decide) ?_
        refine lv_isub hx hb dX7_feed_36 ?_
        refine lv_ti (y := 3) (by decide) ?_
        refine lv_istore (lv' := [(4, .int 3), (0, .ref (a 0)), (1, .int 4), (2, .long p1)]) hx hb dX7_feed_37 hl (by decide) rfl (fun ls hl => ?_)
        refine lv_iload hx hb dX7_feed_39 (lv_at hl 0 rfl) ?_
        refine lv_if_lt (tgt := 66) hx hb dX7_feed_41 (by decide) (fun h => absurd h (by decide)) (fun _ => ?_)
        refine lv_aload_n hx hb dX7_feed_44 rfl (lv_at hl 1 rfl) ?_
        refine va_get (D := D) (ci := 7) (v := .ref (a 1)) (C := RX7) (T := TX7) (N := 12) hx hb hts inX7 hown hK hP 0 rfl rfl 0 (by decide) (hts _ tw_305) (fun _ h9 => h9) rfl dX7_feed_45 ?_
        refine lv_lload_n hx hb dX7_feed_48 rfl (lv_at hl 3 rfl) ?_
        refine lv_bipush (v := 8) hx hb dX7_feed_49 (by decide) ?_
        refine lv_iload hx hb dX7_feed_51 (lv_at hl 0 rfl) ?_
        refine lv_imul hx hb dX7_feed_53 ?_
        refine lv_ti (y := 24) (by decide) ?_
        refine lv_lshr hx hb dX7_feed_54 rfl ?_
        refine lv_topl (fun x_27 ex_27 => ?_)
        refine lv_l2i hx hb dX7_feed_55 rfl ?_
        refine lv_topi (fun x_28 ex_28 => ?_)
        refine lv_i2b hx hb dX7_feed_56 rfl ?_
        refine lv_topi (fun x_29 ex_29 => ?_)
        refine rw_v (D := D) (wr := [((a 0), .inr (7, [.ref (a 1), .ref (a 3), .ref (a 19), .ref (a 20), .ref (a 25), .int 0, .int (-1), .ref (a 32), .ref (a 35), .ref (a 42), .ref (a 43), .ref (a 44)]))]) (va_runV (As := [.int x_29]) (rest := []) ⟨hx, hb, hml, hown, hts⟩ ((k_append l D k st lo (a 1) (a 2) 0 1 x_29 (fun _ => 0) (by decide) (by unfold vp_in; decide) (by decide)) s.heap.size) (cwV 1 hts (gV tw_346 tw_347 tw_348 tw_80 tw_349) rfl rfl rfl (by decide +kernel) ⟨Nat.le_of_ble_eq_true rfl, Nat.le_of_ble_eq_true rfl⟩) (pV hS hAlo hlo hP hK (va_Dlo hD hAlo) hZ [1, 2] (by decide) rfl (ci := 6) (q0 := 0) rfl rfl) rfl rfl hl.1 rfl (lv_room (Nat.le_of_ble_eq_true rfl)) dX7_feed_57 ⟨Nat.le_of_ble_eq_true rfl, Nat.le_of_ble_eq_true rfl⟩) hS hA hP hD [1, 2] [0] rfl rfl (by decide) (by decide) (fun u H locs hw_30 hP hD hS => ?_)
        obtain ⟨g_30, rfl⟩ : ∃ z, z = u := ⟨_, rfl⟩
        have hP : va_P D classes [((a 0), .inr (7, [.ref (a 1), .ref (a 3), .ref (a 19), .ref (a 20), .ref (a 25), .int 0, .int (-1), .ref (a 32), .ref (a 35), .ref (a 42), .ref (a 43), .ref (a 44)])), ((a 1), .inr (6, [.ref (a 2), .int 1, .int 0, .int 0, .int 0, .int 0])), ((a 2), .inl (k 0, 240, .inl g_30))] H := hP
        have hD : va_D A [((a 0), .inr (7, [.ref (a 1), .ref (a 3), .ref (a 19), .ref (a 20), .ref (a 25), .int 0, .int (-1), .ref (a 32), .ref (a 35), .ref (a 42), .ref (a 43), .ref (a 44)])), ((a 1), .inr (6, [.ref (a 2), .int 1, .int 0, .int 0, .int 0, .int 0])), ((a 2), .inl (k 0, 240, .inl g_30))] := hD
        try dsimp only at hw_30
        refine lv_iinc (v := 2) (lv' := [(4, .int 2), (0, .ref (a 0)), (1, .int 4), (2, .long p1)]) hx hb dX7_feed_60 hl (k := 0) rfl (by decide) (by decide) rfl (fun ls hl => ?_)
        refine lv_goto (tgt := 39) hx hb dX7_feed_63 (by decide) ?_
        refine lv_iload hx hb dX7_feed_39 (lv_at hl 0 rfl) ?_
        refine lv_if_lt (tgt := 66) hx hb dX7_feed_41 (by decide) (fun h => absurd h (by decide)) (fun _ => ?_)
        refine lv_aload_n hx hb dX7_feed_44 rfl (lv_at hl 1 rfl) ?_
        refine va_get (D := D) (ci := 7) (v := .ref (a 1)) (C := RX7) (T := TX7) (N := 12) hx hb hts inX7 hown hK hP 0 rfl rfl 0 (by decide) (hts _ tw_305) (fun _ h9 => h9) rfl dX7_feed_45 ?_
        refine lv_lload_n hx hb dX7_feed_48 rfl (lv_at hl 3 rfl) ?_
        refine lv_bipush (v := 8) hx hb dX7_feed_49 (by decide) ?_
        refine lv_iload hx hb dX7_feed_51 (lv_at hl 0 rfl) ?_
        refine lv_imul hx hb dX7_feed_53 ?_
        refine lv_ti (y := 16) (by decide) ?_
        refine lv_lshr hx hb dX7_feed_54 rfl ?_
        refine lv_topl (fun x_31 ex_31 => ?_)
        refine lv_l2i hx hb dX7_feed_55 rfl ?_
        refine lv_topi (fun x_32 ex_32 => ?_)
        refine lv_i2b hx hb dX7_feed_56 rfl ?_
        refine lv_topi (fun x_33 ex_33 => ?_)
        refine rw_v (D := D) (wr := [((a 0), .inr (7, [.ref (a 1), .ref (a 3), .ref (a 19), .ref (a 20), .ref (a 25), .int 0, .int (-1), .ref (a 32), .ref (a 35), .ref (a 42), .ref (a 43), .ref (a 44)]))]) (va_runV (As := [.int x_33]) (rest := []) ⟨hx, hb, hml, hown, hts⟩ ((k_append l D k st lo (a 1) (a 2) 1 2 x_33 g_30 (by decide) (by unfold vp_in; decide) (by decide)) H.size) (cwV 1 hts (gV tw_346 tw_347 tw_348 tw_80 tw_349) rfl rfl rfl (by decide +kernel) ⟨Nat.le_of_ble_eq_true rfl, Nat.le_of_ble_eq_true rfl⟩) (pV hS hAlo hlo hP hK (va_Dlo hD hAlo) hZ [1, 2] (by decide) rfl (ci := 6) (q0 := 0) rfl rfl) rfl rfl hl.1 rfl (lv_room (Nat.le_of_ble_eq_true rfl)) dX7_feed_57 ⟨Nat.le_of_ble_eq_true rfl, Nat.le_of_ble_eq_true rfl⟩) hS hA hP hD [1, 2] [0] rfl rfl (by decide) (by decide) (fun u H locs hw_34 hP hD hS => ?_)
        obtain ⟨g_34, rfl⟩ : ∃ z, z = u := ⟨_, rfl⟩
        have hP : va_P D classes [((a 0), .inr (7, [.ref (a 1), .ref (a 3), .ref (a 19), .ref (a 20), .ref (a 25), .int 0, .int (-1), .ref (a 32), .ref (a 35), .ref (a 42), .ref (a 43), .ref (a 44)])), ((a 1), .inr (6, [.ref (a 2), .int 2, .int 0, .int 0, .int 0, .int 0])), ((a 2), .inl (k 0, 240, .inl g_34))] H := hP
        have hD : va_D A [((a 0), .inr (7, [.ref (a 1), .ref (a 3), .ref (a 19), .ref (a 20), .ref (a 25), .int 0, .int (-1), .ref (a 32), .ref (a 35), .ref (a 42), .ref (a 43), .ref (a 44)])), ((a 1), .inr (6, [.ref (a 2), .int 2, .int 0, .int 0, .int 0, .int 0])), ((a 2), .inl (k 0, 240, .inl g_34))] := hD
        try dsimp only at hw_34
        refine lv_iinc (v := 1) (lv' := [(4, .int 1), (0, .ref (a 0)), (1, .int 4), (2, .long p1)]) hx hb dX7_feed_60 hl (k := 0) rfl (by decide) (by decide) rfl (fun ls hl => ?_)
        refine lv_goto (tgt := 39) hx hb dX7_feed_63 (by decide) ?_
        refine lv_iload hx hb dX7_feed_39 (lv_at hl 0 rfl) ?_
        refine lv_if_lt (tgt := 66) hx hb dX7_feed_41 (by decide) (fun h => absurd h (by decide)) (fun _ => ?_)
        refine lv_aload_n hx hb dX7_feed_44 rfl (lv_at hl 1 rfl) ?_
        refine va_get (D := D) (ci := 7) (v := .ref (a 1)) (C := RX7) (T := TX7) (N := 12) hx hb hts inX7 hown hK hP 0 rfl rfl 0 (by decide) (hts _ tw_305) (fun _ h9 => h9) rfl dX7_feed_45 ?_
        refine lv_lload_n hx hb dX7_feed_48 rfl (lv_at hl 3 rfl) ?_
        refine lv_bipush (v := 8) hx hb dX7_feed_49 (by decide) ?_
        refine lv_iload hx hb dX7_feed_51 (lv_at hl 0 rfl) ?_
        refine lv_imul hx hb dX7_feed_53 ?_
        refine lv_ti (y := 8) (by decide) ?_
        refine lv_lshr hx hb dX7_feed_54 rfl ?_
        refine lv_topl (fun x_35 ex_35 => ?_)
        refine lv_l2i hx hb dX7_feed_55 rfl ?_
        refine lv_topi (fun x_36 ex_36 => ?_)
        refine lv_i2b hx hb dX7_feed_56 rfl ?_
        refine lv_topi (fun x_37 ex_37 => ?_)
        refine rw_v (D := D) (wr := [((a 0), .inr (7, [.ref (a 1), .ref (a 3), .ref (a 19), .ref (a 20), .ref (a 25), .int 0, .int (-1), .ref (a 32), .ref (a 35), .ref (a 42), .ref (a 43), .ref (a 44)]))]) (va_runV (As := [.int x_37]) (rest := []) ⟨hx, hb, hml, hown, hts⟩ ((k_append l D k st lo (a 1) (a 2) 2 3 x_37 g_34 (by decide) (by unfold vp_in; decide) (by decide)) H.size) (cwV 1 hts (gV tw_346 tw_347 tw_348 tw_80 tw_349) rfl rfl rfl (by decide +kernel) ⟨Nat.le_of_ble_eq_true rfl, Nat.le_of_ble_eq_true rfl⟩) (pV hS hAlo hlo hP hK (va_Dlo hD hAlo) hZ [1, 2] (by decide) rfl (ci := 6) (q0 := 0) rfl rfl) rfl rfl hl.1 rfl (lv_room (Nat.le_of_ble_eq_true rfl)) dX7_feed_57 ⟨Nat.le_of_ble_eq_true rfl, Nat.le_of_ble_eq_true rfl⟩) hS hA hP hD [1, 2] [0] rfl rfl (by decide) (by decide) (fun u H locs hw_38 hP hD hS => ?_)
        obtain ⟨g_38, rfl⟩ : ∃ z, z = u := ⟨_, rfl⟩
        have hP : va_P D classes [((a 0), .inr (7, [.ref (a 1), .ref (a 3), .ref (a 19), .ref (a 20), .ref (a 25), .int 0, .int (-1), .ref (a 32), .ref (a 35), .ref (a 42), .ref (a 43), .ref (a 44)])), ((a 1), .inr (6, [.ref (a 2), .int 3, .int 0, .int 0, .int 0, .int 0])), ((a 2), .inl (k 0, 240, .inl g_38))] H := hP
        have hD : va_D A [((a 0), .inr (7, [.ref (a 1), .ref (a 3), .ref (a 19), .ref (a 20), .ref (a 25), .int 0, .int (-1), .ref (a 32), .ref (a 35), .ref (a 42), .ref (a 43), .ref (a 44)])), ((a 1), .inr (6, [.ref (a 2), .int 3, .int 0, .int 0, .int 0, .int 0])), ((a 2), .inl (k 0, 240, .inl g_38))] := hD
        try dsimp only at hw_38
        refine lv_iinc (v := 0) (lv' := [(4, .int 0), (0, .ref (a 0)), (1, .int 4), (2, .long p1)]) hx hb dX7_feed_60 hl (k := 0) rfl (by decide) (by decide) rfl (fun ls hl => ?_)
        refine lv_goto (tgt := 39) hx hb dX7_feed_63 (by decide) ?_
        refine lv_iload hx hb dX7_feed_39 (lv_at hl 0 rfl) ?_
        refine lv_if_lt (tgt := 66) hx hb dX7_feed_41 (by decide) (fun h => absurd h (by decide)) (fun _ => ?_)
        refine lv_aload_n hx hb dX7_feed_44 rfl (lv_at hl 1 rfl) ?_
        refine va_get (D := D) (ci := 7) (v := .ref (a 1)) (C := RX7) (T := TX7) (N := 12) hx hb hts inX7 hown hK hP 0 rfl rfl 0 (by decide) (hts _ tw_305) (fun _ h9 => h9) rfl dX7_feed_45 ?_
        refine lv_lload_n hx hb dX7_feed_48 rfl (lv_at hl 3 rfl) ?_
        refine lv_bipush (v := 8) hx hb dX7_feed_49 (by decide) ?_
        refine lv_iload hx hb dX7_feed_51 (lv_at hl 0 rfl) ?_
        refine lv_imul hx hb dX7_feed_53 ?_
        refine lv_ti (y := 0) (by decide) ?_
        refine lv_lshr hx hb dX7_feed_54 rfl ?_
        refine lv_topl (fun x_39 ex_39 => ?_)
        refine lv_l2i hx hb dX7_feed_55 rfl ?_
        refine lv_topi (fun x_40 ex_40 => ?_)
        refine lv_i2b hx hb dX7_feed_56 rfl ?_
        refine lv_topi (fun x_41 ex_41 => ?_)
        refine rw_v (D := D) (wr := [((a 0), .inr (7, [.ref (a 1), .ref (a 3), .ref (a 19), .ref (a 20), .ref (a 25), .int 0, .int (-1), .ref (a 32), .ref (a 35), .ref (a 42), .ref (a 43), .ref (a 44)]))]) (va_runV (As := [.int x_41]) (rest := []) ⟨hx, hb, hml, hown, hts⟩ ((k_append l D k st lo (a 1) (a 2) 3 4 x_41 g_38 (by decide) (by unfold vp_in; decide) (by decide)) H.size) (cwV 1 hts (gV tw_346 tw_347 tw_348 tw_80 tw_349) rfl rfl rfl (by decide +kernel) ⟨Nat.le_of_ble_eq_true rfl, Nat.le_of_ble_eq_true rfl⟩) (pV hS hAlo hlo hP hK (va_Dlo hD hAlo) hZ [1, 2] (by decide) rfl (ci := 6) (q0 := 0) rfl rfl) rfl rfl hl.1 rfl (lv_room (Nat.le_of_ble_eq_true rfl)) dX7_feed_57 ⟨Nat.le_of_ble_eq_true rfl, Nat.le_of_ble_eq_true rfl⟩) hS hA hP hD [1, 2] [0] rfl rfl (by decide) (by decide) (fun u H locs hw_42 hP hD hS => ?_)
        obtain ⟨g_42, rfl⟩ : ∃ z, z = u := ⟨_, rfl⟩
        have hP : va_P D classes [((a 0), .inr (7, [.ref (a 1), .ref (a 3), .ref (a 19), .ref (a 20), .ref (a 25), .int 0, .int (-1), .ref (a 32), .ref (a 35), .ref (a 42), .ref (a 43), .ref (a 44)])), ((a 1), .inr (6, [.ref (a 2), .int 4, .int 0, .int 0, .int 0, .int 0])), ((a 2), .inl (k 0, 240, .inl g_42))] H := hP
        have hD : va_D A [((a 0), .inr (7, [.ref (a 1), .ref (a 3), .ref (a 19), .ref (a 20), .ref (a 25), .int 0, .int (-1), .ref (a 32), .ref (a 35), .ref (a 42), .ref (a 43), .ref (a 44)])), ((a 1), .inr (6, [.ref (a 2), .int 4, .int 0, .int 0, .int 0, .int 0])), ((a 2), .inl (k 0, 240, .inl g_42))] := hD
        try dsimp only at hw_42
        refine lv_iinc (v := (-1)) (lv' := [(4, .int (-1)), (0, .ref (a 0)), (1, .int 4), (2, .long p1)]) hx hb dX7_feed_60 hl (k := 0) rfl (by decide) (by decide) rfl (fun ls hl => ?_)
        refine lv_goto (tgt := 39) hx hb dX7_feed_63 (by decide) ?_
        refine lv_iload hx hb dX7_feed_39 (lv_at hl 0 rfl) ?_
        refine lv_if_lt (tgt := 66) hx hb dX7_feed_41 (by decide) (fun _ => ?_) (fun h => absurd (by decide) h)
        refine lv_aload_n hx hb dX7_feed_66 rfl (lv_at hl 1 rfl) ?_
        refine va_get (D := D) (ci := 7) (v := .ref (a 1)) (C := RX7) (T := TX7) (N := 12) hx hb hts inX7 hown hK hP 0 rfl rfl 0 (by decide) (hts _ tw_305) (fun _ h9 => h9) rfl dX7_feed_67 ?_
        refine va_get (D := D) (ci := 6) (v := .int 4) (C := RX6) (T := TX6) (N := 6) hx hb hts inX6 hown hK hP 1 rfl rfl 1 (by decide) (hts _ tw_111) (fun _ h9 => h9) rfl dX7_feed_70 ?_
        have hP9 := hP.sub (ws' := []) [] rfl
        have hD9 := hD.sub (ws' := []) [] (by decide) rfl
        exact W.iret (v := 4) hx hb hr (fun t ht hW => ⟨⟨4, (), rfl, ⟨fun _ => rfl, fun h => absurd ⟨by decide, by decide⟩ h⟩, by rw [ht]; exact hP9, hD9⟩, hS.F ht⟩) hS.2.2 dX7_feed_73
      · refine lv_aload_n hx hb dX7_feed_15 rfl (lv_at hl 0 rfl) ?_
        refine va_get (D := D) (ci := 7) (v := .ref (a 1)) (C := RX7) (T := TX7) (N := 12) hx hb hts inX7 hown hK hP 0 rfl rfl 0 (by decide) (hts _ tw_305) (fun _ h9 => h9) rfl dX7_feed_16 ?_
        refine va_get (D := D) (ci := 6) (v := .int 0) (C := RX6) (T := TX6) (N := 6) hx hb hts inX6 hown hK hP 1 rfl rfl 1 (by decide) (hts _ tw_111) (fun _ h9 => h9) rfl dX7_feed_19 ?_
        refine lv_iload_n hx hb dX7_feed_22 rfl (lv_at hl 1 rfl) ?_
        refine lv_iadd hx hb dX7_feed_23 ?_
        refine lv_ti (y := 5) (by decide) ?_
        refine lv_sipush (v := 240) hx hb dX7_feed_24 (by decide) ?_
        refine lv_icmp_le (tgt := 34) hx hb dX7_feed_27 (by decide) (fun _ => ?_) (fun h => absurd (by decide) h)
        refine lv_iload_n hx hb dX7_feed_34 rfl (lv_at hl 1 rfl) ?_
        refine lv_iconst (v := 1) hx hb dX7_feed_35 (by decide) ?_
        refine lv_isub hx hb dX7_feed_36 ?_
        refine lv_ti (y := 4) (by decide) ?_
        refine lv_istore (lv' := [(4, .int 4), (0, .ref (a 0)), (1, .int 5), (2, .long p1)]) hx hb dX7_feed_37 hl (by decide) rfl (fun ls hl => ?_)
        refine lv_iload hx hb dX7_feed_39 (lv_at hl 0 rfl) ?_
        refine lv_if_lt (tgt := 66) hx hb dX7_feed_41 (by decide) (fun h => absurd h (by decide)) (fun _ => ?_)
        refine lv_aload_n hx hb dX7_feed_44 rfl (lv_at hl 1 rfl) ?_
        refine va_get (D := D) (ci := 7) (v := .ref (a 1)) (C := RX7) (T := TX7) (N := 12) hx hb hts inX7 hown hK hP 0 rfl rfl 0 (by decide) (hts _ tw_305) (fun _ h9 => h9) rfl dX7_feed_45 ?_
        refine lv_lload_n hx hb dX7_feed_48 rfl (lv_at hl 3 rfl) ?_
        refine lv_bipush (v := 8) hx hb dX7_feed_49 (by decide) ?_
        refine lv_iload hx hb dX7_feed_51 (lv_at hl 0 rfl) ?_
        refine lv_imul hx hb dX7_feed_53 ?_
        refine lv_ti (y := 32) (by decide) ?_
        refine lv_lshr hx hb dX7_feed_54 rfl ?_
        refine lv_topl (fun x_43 ex_43 => ?_)
        refine lv_l2i hx hb dX7_feed_55 rfl ?_
        refine lv_topi (fun x_44 ex_44 => ?_)
        refine lv_i2b hx hb dX7_feed_56 rfl ?_
        refine lv_topi (fun x_45 ex_45 => ?_)
        refine rw_v (D := D) (wr := [((a 0), .inr (7, [.ref (a 1), .ref (a 3), .ref (a 19), .ref (a 20), .ref (a 25), .int 0, .int (-1), .ref (a 32), .ref (a 35), .ref (a 42), .ref (a 43), .ref (a 44)]))]) (va_runV (As := [.int x_45]) (rest := []) ⟨hx, hb, hml, hown, hts⟩ ((k_append l D k st lo (a 1) (a 2) 0 1 x_45 (fun _ => 0) (by decide) (by unfold vp_in; decide) (by decide)) s.heap.size) (cwV 1 hts (gV tw_346 tw_347 tw_348 tw_80 tw_349) rfl rfl rfl (by decide +kernel) ⟨Nat.le_of_ble_eq_true rfl, Nat.le_of_ble_eq_true rfl⟩) (pV hS hAlo hlo hP hK (va_Dlo hD hAlo) hZ [1, 2] (by decide) rfl (ci := 6) (q0 := 0) rfl rfl) rfl rfl hl.1 rfl (lv_room (Nat.le_of_ble_eq_true rfl)) dX7_feed_57 ⟨Nat.le_of_ble_eq_true rfl, Nat.le_of_ble_eq_true rfl⟩) hS hA hP hD [1, 2] [0] rfl rfl (by decide) (by decide) (fun u H locs hw_46 hP hD hS => ?_)
        obtain ⟨g_46, rfl⟩ : ∃ z, z = u := ⟨_, rfl⟩
        have hP : va_P D classes [((a 0), .inr (7, [.ref (a 1), .ref (a 3), .ref (a 19), .ref (a 20), .ref (a 25), .int 0, .int (-1), .ref (a 32), .ref (a 35), .ref (a 42), .ref (a 43), .ref (a 44)])), ((a 1), .inr (6, [.ref (a 2), .int 1, .int 0, .int 0, .int 0, .int 0])), ((a 2), .inl (k 0, 240, .inl g_46))] H := hP
        have hD : va_D A [((a 0), .inr (7, [.ref (a 1), .ref (a 3), .ref (a 19), .ref (a 20), .ref (a 25), .int 0, .int (-1), .ref (a 32), .ref (a 35), .ref (a 42), .ref (a 43), .ref (a 44)])), ((a 1), .inr (6, [.ref (a 2), .int 1, .int 0, .int 0, .int 0, .int 0])), ((a 2), .inl (k 0, 240, .inl g_46))] := hD
        try dsimp only at hw_46
        refine lv_iinc (v := 3) (lv' := [(4, .int 3), (0, .ref (a 0)), (1, .int 5), (2, .long p1)]) hx hb dX7_feed_60 hl (k := 0) rfl (by decide) (by decide) rfl (fun ls hl => ?_)
        refine lv_goto (tgt := 39) hx hb dX7_feed_63 (by decide) ?_
        refine lv_iload hx hb dX7_feed_39 (lv_at hl 0 rfl) ?_
        refine lv_if_lt (tgt := 66) hx hb dX7_feed_41 (by decide) (fun h => absurd h (by decide)) (fun _ => ?_)
        refine lv_aload_n hx hb dX7_feed_44 rfl (lv_at hl 1 rfl) ?_
        refine va_get (D := D) (ci := 7) (v := .ref (a 1)) (C := RX7) (T := TX7) (N := 12) hx hb hts inX7 hown hK hP 0 rfl rfl 0 (by decide) (hts _ tw_305) (fun _ h9 => h9) rfl dX7_feed_45 ?_
        refine lv_lload_n hx hb dX7_feed_48 rfl (lv_at hl 3 rfl) ?_
        refine lv_bipush (v := 8) hx hb dX7_feed_49 (by decide) ?_
        refine lv_iload hx hb dX7_feed_51 (lv_at hl 0 rfl) ?_
        refine lv_imul hx hb dX7_feed_53 ?_
        refine lv_ti (y := 24) (by decide) ?_
        refine lv_lshr hx hb dX7_feed_54 rfl ?_
        refine lv_topl (fun x_47 ex_47 => ?_)
        refine lv_l2i hx hb dX7_feed_55 rfl ?_
        refine lv_topi (fun x_48 ex_48 => ?_)
        refine lv_i2b hx hb dX7_feed_56 rfl ?_
        refine lv_topi (fun x_49 ex_49 => ?_)
        refine rw_v (D := D) (wr := [((a 0), .inr (7, [.ref (a 1), .ref (a 3), .ref (a 19), .ref (a 20), .ref (a 25), .int 0, .int (-1), .ref (a 32), .ref (a 35), .ref (a 42), .ref (a 43), .ref (a 44)]))]) (va_runV (As := [.int x_49]) (rest := []) ⟨hx, hb, hml, hown, hts⟩ ((k_append l D k st lo (a 1) (a 2) 1 2 x_49 g_46 (by decide) (by unfold vp_in; decide) (by decide)) H.size) (cwV 1 hts (gV tw_346 tw_347 tw_348 tw_80 tw_349) rfl rfl rfl (by decide +kernel) ⟨Nat.le_of_ble_eq_true rfl, Nat.le_of_ble_eq_true rfl⟩) (pV hS hAlo hlo hP hK (va_Dlo hD hAlo) hZ [1, 2] (by decide) rfl (ci := 6) (q0 := 0) rfl rfl) rfl rfl hl.1 rfl (lv_room (Nat.le_of_ble_eq_true rfl)) dX7_feed_57 ⟨Nat.le_of_ble_eq_true rfl, Nat.le_of_ble_eq_true rfl⟩) hS hA hP hD [1, 2] [0] rfl rfl (by decide) (by decide) (fun u H locs hw_50 hP hD hS => ?_)
        obtain ⟨g_50, rfl⟩ : ∃ z, z = u := ⟨_, rfl⟩
        have hP : va_P D classes [((a 0), .inr (7, [.ref (a 1), .ref (a 3), .ref (a 19), .ref (a 20), .ref (a 25), .int 0, .int (-1), .ref (a 32), .ref (a 35), .ref (a 42), .ref (a 43), .ref (a 44)])), ((a 1), .inr (6, [.ref (a 2), .int 2, .int 0, .int 0, .int 0, .int 0])), ((a 2), .inl (k 0, 240, .inl g_50))] H := hP
        have hD : va_D A [((a 0), .inr (7, [.ref (a 1), .ref (a 3), .ref (a 19), .ref (a 20), .ref (a 25), .int 0, .int (-1), .ref (a 32), .ref (a 35), .ref (a 42), .ref (a 43), .ref (a 44)])), ((a 1), .inr (6, [.ref (a 2), .int 2, .int 0, .int 0, .int 0, .int 0])), ((a 2), .inl (k 0, 240, .inl g_50))] := hD
        try dsimp only at hw_50
        refine lv_iinc (v := 2) (lv' := [(4, .int 2), (0, .ref (a 0)), (1, .int 5), (2, .long p1)]) hx hb dX7_feed_60 hl (k := 0) rfl (by decide) (by decide) rfl (fun ls hl => ?_)
        refine lv_goto (tgt := 39) hx hb dX7_feed_63 (by decide) ?_
        refine lv_iload hx hb dX7_feed_39 (lv_at hl 0 rfl) ?_
        refine lv_if_lt (tgt := 66) hx hb dX7_feed_41 (by decide) (fun h => absurd h (by decide)) (fun _ => ?_)
        refine lv_aload_n hx hb dX7_feed_44 rfl (lv_at hl 1 rfl) ?_
        refine va_get (D := D) (ci := 7) (v := .ref (a 1)) (C := RX7) (T := TX7) (N := 12) hx hb hts inX7 hown hK hP 0 rfl rfl 0 (by decide) (hts _ tw_305) (fun _ h9 => h9) rfl dX7_feed_45 ?_
        refine lv_lload_n hx hb dX7_feed_48 rfl (lv_at hl 3 rfl) ?_
        refine lv_bipush (v := 8) hx hb dX7_feed_49 (by decide) ?_
        refine lv_iload hx hb dX7_feed_51 (lv_at hl 0 rfl) ?_
        refine lv_imul hx hb dX7_feed_53 ?_
        refine lv_ti (y := 16) (by decide) ?_
        refine lv_lshr hx hb dX7_feed_54 rfl ?_
        refine lv_topl (fun x_51 ex_51 => ?_)
        refine lv_l2i hx hb dX7_feed_55 rfl ?_
        refine lv_topi (fun x_52 ex_52 => ?_)
        refine lv_i2b hx hb dX7_feed_56 rfl ?_
        refine lv_topi (fun x_53 ex_53 => ?_)
        refine rw_v (D := D) (wr := [((a 0), .inr (7, [.ref (a 1), .ref (a 3), .ref (a 19), .ref (a 20), .ref (a 25), .int 0, .int (-1), .ref (a 32), .ref (a 35), .ref (a 42), .ref (a 43), .ref (a 44)]))]) (va_runV (As := [.int x_53]) (rest := []) ⟨hx, hb, hml, hown, hts⟩ ((k_append l D k st lo (a 1) (a 2) 2 3 x_53 g_50 (by decide) (by unfold vp_in; decide) (by decide)) H.size) (cwV 1 hts (gV tw_346 tw_347 tw_348 tw_80 tw_349) rfl rfl rfl (by decide +kernel) ⟨Nat.le_of_ble_eq_true rfl, Nat.le_of_ble_eq_true rfl⟩) (pV hS hAlo hlo hP hK (va_Dlo hD hAlo) hZ [1, 2] (by decide) rfl (ci := 6) (q0 := 0) rfl rfl) rfl rfl hl.1 rfl (lv_room (Nat.le_of_ble_eq_true rfl)) dX7_feed_57 ⟨Nat.le_of_ble_eq_true rfl, Nat.le_of_ble_eq_true rfl⟩) hS hA hP hD [1, 2] [0] rfl rfl (by decide) (by decide) (fun u H locs hw_54 hP hD hS => ?_)
        obtain ⟨g_54, rfl⟩ : ∃ z, z = u := ⟨_, rfl⟩
        have hP : va_P D classes [((a 0), .inr (7, [.ref (a 1), .ref (a 3), .ref (a 19), .ref (a 20), .ref (a 25), .int 0, .int (-1), .ref (a 32), .ref (a 35), .ref (a 42), .ref (a 43), .ref (a 44)])), ((a 1), .inr (6, [.ref (a 2), .int 3, .int 0, .int 0, .int 0, .int 0])), ((a 2), .inl (k 0, 240, .inl g_54))] H := hP
        have hD : va_D A [((a 0), .inr (7, [.ref (a 1), .ref (a 3), .ref (a 19), .ref (a 20), .ref (a 25), .int 0, .int (-1), .ref (a 32), .ref (a 35), .ref (a 42), .ref (a 43), .ref (a 44)])), ((a 1), .inr (6, [.ref (a 2), .int 3, .int 0, .int 0, .int 0, .int 0])), ((a 2), .inl (k 0, 240, .inl g_54))] := hD
        try dsimp only at hw_54
        refine lv_iinc (v := 1) (lv' := [(4, .int 1), (0, .ref (a 0)), (1, .int 5), (2, .long p1)]) hx hb dX7_feed_60 hl (k := 0) rfl (by decide) (by decide) rfl (fun ls hl => ?_)
        refine lv_goto (tgt := 39) hx hb dX7_feed_63 (by decide) ?_
        refine lv_iload hx hb dX7_feed_39 (lv_at hl 0 rfl) ?_
        refine lv_if_lt (tgt := 66) hx hb dX7_feed_41 (by decide) (fun h => absurd h (by decide)) (fun _ => ?_)
        refine lv_aload_n hx hb dX7_feed_44 rfl (lv_at hl 1 rfl) ?_
        refine va_get (D := D) (ci := 7) (v := .ref (a 1)) (C := RX7) (T := TX7) (N := 12) hx hb hts inX7 hown hK hP 0 rfl rfl 0 (by decide) (hts _ tw_305) (fun _ h9 => h9) rfl dX7_feed_45 ?_
        refine lv_lload_n hx hb dX7_feed_48 rfl (lv_at hl 3 rfl) ?_
        refine lv_bipush (v := 8) hx hb dX7_feed_49 (by decide) ?_
        refine lv_iload hx hb dX7_feed_51 (lv_at hl 0 rfl) ?_
        refine lv_imul hx hb dX7_feed_53 ?_
        refine lv_ti (y := 8) (by decide) ?_
        refine lv_lshr hx hb dX7_feed_54 rfl ?_
        refine lv_topl (fun x_55 ex_55 => ?_)
        refine lv_l2i hx hb dX7_feed_55 rfl ?_
        refine lv_topi (fun x_56 ex_56 => ?_)
        refine lv_i2b hx hb dX7_feed_56 rfl ?_
        refine lv_topi (fun x_57 ex_57 => ?_)
        refine rw_v (D := D) (wr := [((a 0), .inr (7, [.ref (a 1), .ref (a 3), .ref (a 19), .ref (a 20), .ref (a 25), .int 0, .int (-1), .ref (a 32), .ref (a 35), .ref (a 42), .ref (a 43), .ref (a 44)]))]) (va_runV (As := [.int x_57]) (rest := []) ⟨hx, hb, hml, hown, hts⟩ ((k_append l D k st lo (a 1) (a 2) 3 4 x_57 g_54 (by decide) (by unfold vp_in; decide) (by decide)) H.size) (cwV 1 hts (gV tw_346 tw_347 tw_348 tw_80 tw_349) rfl rfl rfl (by decide +kernel) ⟨Nat.le_of_ble_eq_true rfl, Nat.le_of_ble_eq_true rfl⟩) (pV hS hAlo hlo hP hK (va_Dlo hD hAlo) hZ [1, 2] (by decide) rfl (ci := 6) (q0 := 0) rfl rfl) rfl rfl hl.1 rfl (lv_room (Nat.le_of_ble_eq_true rfl)) dX7_feed_57 ⟨Nat.le_of_ble_eq_true rfl, Nat.le_of_ble_eq_true rfl⟩) hS hA hP hD [1, 2] [0] rfl rfl (by decide) (by decide) (fun u H locs hw_58 hP hD hS => ?_)
        obtain ⟨g_58, rfl⟩ : ∃ z, z = u := ⟨_, rfl⟩
        have hP : va_P D classes [((a 0), .inr (7, [.ref (a 1), .ref (a 3), .ref (a 19), .ref (a 20), .ref (a 25), .int 0, .int (-1), .ref (a 32), .ref (a 35), .ref (a 42), .ref (a 43), .ref (a 44)])), ((a 1), .inr (6, [.ref (a 2), .int 4, .int 0, .int 0, .int 0, .int 0])), ((a 2), .inl (k 0, 240, .inl g_58))] H := hP
        have hD : va_D A [((a 0), .inr (7, [.ref (a 1), .ref (a 3), .ref (a 19), .ref (a 20), .ref (a 25), .int 0, .int (-1), .ref (a 32), .ref (a 35), .ref (a 42), .ref (a 43), .ref (a 44)])), ((a 1), .inr (6, [.ref (a 2), .int 4, .int 0, .int 0, .int 0, .int 0])), ((a 2), .inl (k 0, 240, .inl g_58))] := hD
        try dsimp only at hw_58
        refine lv_iinc (v := 0) (lv' := [(4, .int 0), (0, .ref (a 0)), (1, .int 5), (2, .long p1)]) hx hb dX7_feed_60 hl (k := 0) rfl (by decide) (by decide) rfl (fun ls hl => ?_)
        refine lv_goto (tgt := 39) hx hb dX7_feed_63 (by decide) ?_
        refine lv_iload hx hb dX7_feed_39 (lv_at hl 0 rfl) ?_
        refine lv_if_lt (tgt := 66) hx hb dX7_feed_41 (by decide) (fun h => absurd h (by decide)) (fun _ => ?_)
        refine lv_aload_n hx hb dX7_feed_44 rfl (lv_at hl 1 rfl) ?_
        refine va_get (D := D) (ci := 7) (v := .ref (a 1)) (C := RX7) (T := TX7) (N := 12) hx hb hts inX7 hown hK hP 0 rfl rfl 0 (by decide) (hts _ tw_305) (fun _ h9 => h9) rfl dX7_feed_45 ?_
        refine lv_lload_n hx hb dX7_feed_48 rfl (lv_at hl 3 rfl) ?_
        refine lv_bipush (v := 8) hx hb dX7_feed_49 (by decide) ?_
        refine lv_iload hx hb dX7_feed_51 (lv_at hl 0 rfl) ?_
        refine lv_imul hx hb dX7_feed_53 ?_
        refine lv_ti (y := 0) (by decide) ?_
        refine lv_lshr hx hb dX7_feed_54 rfl ?_
        refine lv_topl (fun x_59 ex_59 => ?_)
        refine lv_l2i hx hb dX7_feed_55 rfl ?_
        refine lv_topi (fun x_60 ex_60 => ?_)
        refine lv_i2b hx hb dX7_feed_56 rfl ?_
        refine lv_topi (fun x_61 ex_61 => ?_)
        refine rw_v (D := D) (wr := [((a 0), .inr (7, [.ref (a 1), .ref (a 3), .ref (a 19), .ref (a 20), .ref (a 25), .int 0, .int (-1), .ref (a 32), .ref (a 35), .ref (a 42), .ref (a 43), .ref (a 44)]))]) (va_runV (As := [.int x_61]) (rest := []) ⟨hx, hb, hml, hown, hts⟩ ((k_append l D k st lo (a 1) (a 2) 4 5 x_61 g_58 (by decide) (by unfold vp_in; decide) (by decide)) H.size) (cwV 1 hts (gV tw_346 tw_347 tw_348 tw_80 tw_349) rfl rfl rfl (by decide +kernel) ⟨Nat.le_of_ble_eq_true rfl, Nat.le_of_ble_eq_true rfl⟩) (pV hS hAlo hlo hP hK (va_Dlo hD hAlo) hZ [1, 2] (by decide) rfl (ci := 6) (q0 := 0) rfl rfl) rfl rfl hl.1 rfl (lv_room (Nat.le_of_ble_eq_true rfl)) dX7_feed_57 ⟨Nat.le_of_ble_eq_true rfl, Nat.le_of_ble_eq_true rfl⟩) hS hA hP hD [1, 2] [0] rfl rfl (by decide) (by decide) (fun u H locs hw_62 hP hD hS => ?_)
        obtain ⟨g_62, rfl⟩ : ∃ z, z = u := ⟨_, rfl⟩
        have hP : va_P D classes [((a 0), .inr (7, [.ref (a 1), .ref (a 3), .ref (a 19), .ref (a 20), .ref (a 25), .int 0, .int (-1), .ref (a 32), .ref (a 35), .ref (a 42), .ref (a 43), .ref (a 44)])), ((a 1), .inr (6, [.ref (a 2), .int 5, .int 0, .int 0, .int 0, .int 0])), ((a 2), .inl (k 0, 240, .inl g_62))] H := hP
        have hD : va_D A [((a 0), .inr (7, [.ref (a 1), .ref (a 3), .ref (a 19), .ref (a 20), .ref (a 25), .int 0, .int (-1), .ref (a 32), .ref (a 35), .ref (a 42), .ref (a 43), .ref (a 44)])), ((a 1), .inr (6, [.ref (a 2), .int 5, .int 0, .int 0, .int 0, .int 0])), ((a 2), .inl (k 0, 240, .inl g_62))] := hD
        try dsimp only at hw_62
        refine lv_iinc (v := (-1)) (lv' := [(4, .int (-1)), (0, .ref (a 0)), (1, .int 5), (2, .long p1)]) hx hb dX7_feed_60 hl (k := 0) rfl (by decide) (by decide) rfl (fun ls hl => ?_)
        refine lv_goto (tgt := 39) hx hb dX7_feed_63 (by decide) ?_
        refine lv_iload hx hb dX7_feed_39 (lv_at hl 0 rfl) ?_
        refine lv_if_lt (tgt := 66) hx hb dX7_feed_41 (by decide) (fun _ => ?_) (fun h => absurd (by decide) h)
        refine lv_aload_n hx hb dX7_feed_66 rfl (lv_at hl 1 rfl) ?_
        refine va_get (D := D) (ci := 7) (v := .ref (a 1)) (C := RX7) (T := TX7) (N := 12) hx hb hts inX7 hown hK hP 0 rfl rfl 0 (by decide) (hts _ tw_305) (fun _ h9 => h9) rfl dX7_feed_67 ?_
        refine va_get (D := D) (ci := 6) (v := .int 5) (C := RX6) (T := TX6) (N := 6) hx hb hts inX6 hown hK hP 1 rfl rfl 1 (by decide) (hts _ tw_111) (fun _ h9 => h9) rfl dX7_feed_70 ?_
        have hP9 := hP.sub (ws' := []) [] rfl
        have hD9 := hD.sub (ws' := []) [] (by decide) rfl
        exact W.iret (v := 5) hx hb hr (fun t ht hW => ⟨⟨5, (), rfl, ⟨fun _ => rfl, fun h => absurd ⟨by decide, by decide⟩ h⟩, by rw [ht]; exact hP9, hD9⟩, hS.F ht⟩) hS.2.2 dX7_feed_73
      · refine lv_aload_n hx hb dX7_feed_15 rfl (lv_at hl 0 rfl) ?_
        refine va_get (D := D) (ci := 7) (v := .ref (a 1)) (C := RX7) (T := TX7) (N := 12) hx hb hts inX7 hown hK hP 0 rfl rfl 0 (by decide) (hts _ tw_305) (fun _ h9 => h9) rfl dX7_feed_16 ?_
        refine va_get (D := D) (ci := 6) (v := .int 0) (C := RX6) (T := TX6) (N := 6) hx hb hts inX6 hown hK hP 1 rfl rfl 1 (by decide) (hts _ tw_111) (fun _ h9 => h9) rfl dX7_feed_19 ?_
        refine lv_iload_n hx hb dX7_feed_22 rfl (lv_at hl 1 rfl) ?_
        refine lv_iadd hx hb dX7_feed_23 ?_
        refine lv_ti (y := 6) (by decide) ?_
        refine lv_sipush (v := 240) hx hb dX7_feed_24 (by decide) ?_
        refine lv_icmp_le (tgt := 34) hx hb dX7_feed_27 (by decide) (fun _ => ?_) (fun h => absurd (by decide) h)
        refine lv_iload_n hx hb dX7_feed_34 rfl (lv_at hl 1 rfl) ?_
        refine lv_iconst (v := 1) hx hb dX7_feed_35 (by decide) ?_
        refine lv_isub hx hb dX7_feed_36 ?_
        refine lv_ti (y := 5) (by decide) ?_
        refine lv_istore (lv' := [(4, .int 5), (0, .ref (a 0)), (1, .int 6), (2, .long p1)]) hx hb dX7_feed_37 hl (by decide) rfl (fun ls hl => ?_)
        refine lv_iload hx hb dX7_feed_39 (lv_at hl 0 rfl) ?_
        refine lv_if_lt (tgt := 66) hx hb dX7_feed_41 (by decide) (fun h => absurd h (by decide)) (fun _ => ?_)
        refine lv_aload_n hx hb dX7_feed_44 rfl (lv_at hl 1 rfl) ?_
        refine va_get (D := D) (ci := 7) (v := .ref (a 1)) (C := RX7) (T := TX7) (N := 12) hx hb hts inX7 hown hK hP 0 rfl rfl 0 (by decide) (hts _ tw_305) (fun _ h9 => h9) rfl dX7_feed_45 ?_
        refine lv_lload_n hx hb dX7_feed_48 rfl (lv_at hl 3 rfl) ?_
        refine lv_bipush (v := 8) hx hb dX7_feed_49 (by decide) ?_
        refine lv_iload hx hb dX7_feed_51 (lv_at hl 0 rfl) ?_
        refine lv_imul hx hb dX7_feed_53 ?_
        refine lv_ti (y := 40) (by decide) ?_
        refine lv_lshr hx hb dX7_feed_54 rfl ?_
        refine lv_topl (fun x_63 ex_63 => ?_)
        refine lv_l2i hx hb dX7_feed_55 rfl ?_
        refine lv_topi (fun x_64 ex_64 => ?_)
        refine lv_i2b hx hb dX7_feed_56 rfl ?_
        refine lv_topi (fun x_65 ex_65 => ?_)
        refine rw_v (D := D) (wr := [((a 0), .inr (7, [.ref (a 1), .ref (a 3), .ref (a 19), .ref (a 20), .ref (a 25), .int 0, .int (-1), .ref (a 32), .ref (a 35), .ref (a 42), .ref (a 43), .ref (a 44)]))]) (va_runV (As := [.int x_65]) (rest := []) ⟨hx, hb, hml, hown, hts⟩ ((k_append l D k st lo (a 1) (a 2) 0 1 x_65 (fun _ => 0) (by decide) (by unfold vp_in; decide) (by decide)) s.heap.size) (cwV 1 hts (gV tw_346 tw_347 tw_348 tw_80 tw_349) rfl rfl rfl (by decide +kernel) ⟨Nat.le_of_ble_eq_true rfl, Nat.le_of_ble_eq_true rfl⟩) (pV hS hAlo hlo hP hK (va_Dlo hD hAlo) hZ [1, 2] (by decide) rfl (ci := 6) (q0 := 0) rfl rfl) rfl rfl hl.1 rfl (lv_room (Nat.le_of_ble_eq_true rfl)) dX7_feed_57 ⟨Nat.le_of_ble_eq_true rfl, Nat.le_of_ble_eq_true rfl⟩) hS hA hP hD [1, 2] [0] rfl rfl (by decide) (by decide) (fun u H locs hw_66 hP hD hS => ?_)
        obtain ⟨g_66, rfl⟩ : ∃ z, z = u := ⟨_, rfl⟩
        have hP : va_P D classes [((a 0), .inr (7, [.ref (a 1), .ref (a 3), .ref (a 19), .ref (a 20), .ref (a 25), .int 0, .int (-1), .ref (a 32), .ref (a 35), .ref (a 42), .ref (a 43), .ref (a 44)])), ((a 1), .inr (6, [.ref (a 2), .int 1, .int 0, .int 0, .int 0, .int 0])), ((a 2), .inl (k 0, 240, .inl g_66))] H := hP
        have hD : va_D A [((a 0), .inr (7, [.ref (a 1), .ref (a 3), .ref (a 19), .ref (a 20), .ref (a 25), .int 0, .int (-1), .ref (a 32), .ref (a 35), .ref (a 42), .ref (a 43), .ref (a 44)])), ((a 1), .inr (6, [.ref (a 2), .int 1, .int 0, .int 0, .int 0, .int 0])), ((a 2), .inl (k 0, 240, .inl g_66))] := hD
        try dsimp only at hw_66
        refine lv_iinc (v := 4) (lv' := [(4, .int 4), (0, .ref (a 0)), (1, .int 6), (2, .long p1)]) hx hb dX7_feed_60 hl (k := 0) rfl (by decide) (by decide) rfl (fun ls hl => ?_)
        refine lv_goto (tgt := 39) hx hb dX7_feed_63 (by decide) ?_
        refine lv_iload hx hb dX7_feed_39 (lv_at hl 0 rfl) ?_
        refine lv_if_lt (tgt := 66) hx hb dX7_feed_41 (by decide) (fun h => absurd h (by decide)) (fun _ => ?_)
        refine lv_aload_n hx hb dX7_feed_44 rfl (lv_at hl 1 rfl) ?_
        refine va_get (D := D) (ci := 7) (v := .ref (a 1)) (C := RX7) (T := TX7) (N := 12) hx hb hts inX7 hown hK hP 0 rfl rfl 0 (by decide) (hts _ tw_305) (fun _ h9 => h9) rfl dX7_feed_45 ?_
        refine lv_lload_n hx hb dX7_feed_48 rfl (lv_at hl 3 rfl) ?_
        refine lv_bipush (v := 8) hx hb dX7_feed_49 (by decide) ?_
        refine lv_iload hx hb dX7_feed_51 (lv_at hl 0 rfl) ?_
        refine lv_imul hx hb dX7_feed_53 ?_
        refine lv_ti (y := 32) (by decide) ?_
        refine lv_lshr hx hb dX7_feed_54 rfl ?_
        refine lv_topl (fun x_67 ex_67 => ?_)
        refine lv_l2i hx hb dX7_feed_55 rfl ?_
        refine lv_topi (fun x_68 ex_68 => ?_)
        refine lv_i2b hx hb dX7_feed_56 rfl ?_
        refine lv_topi (fun x_69 ex_69 => ?_)
        refine rw_v (D := D) (wr := [((a 0), .inr (7, [.ref (a 1), .ref (a 3), .ref (a 19), .ref (a 20), .ref (a 25), .int 0, .int (-1), .ref (a 32), .ref (a 35), .ref (a 42), .ref (a 43), .ref (a 44)]))]) (va_runV (As := [.int x_69]) (rest := []) ⟨hx, hb, hml, hown, hts⟩ ((k_append l D k st lo (a 1) (a 2) 1 2 x_69 g_66 (by decide) (by unfold vp_in; decide) (by decide)) H.size) (cwV 1 hts (gV tw_346 tw_347 tw_348 tw_80 tw_349) rfl rfl rfl (by decide +kernel) ⟨Nat.le_of_ble_eq_true rfl, Nat.le_of_ble_eq_true rfl⟩) (pV hS hAlo hlo hP hK (va_Dlo hD hAlo) hZ [1, 2] (by decide) rfl (ci := 6) (q0 := 0) rfl rfl) rfl rfl hl.1 rfl (lv_room (Nat.le_of_ble_eq_true rfl)) dX7_feed_57 ⟨Nat.le_of_ble_eq_true rfl, Nat.le_of_ble_eq_true rfl⟩) hS hA hP hD [1, 2] [0] rfl rfl (by decide) (by decide) (fun u H locs hw_70 hP hD hS => ?_)
        obtain ⟨g_70, rfl⟩ : ∃ z, z = u := ⟨_, rfl⟩
        have hP : va_P D classes [((a 0), .inr (7, [.ref (a 1), .ref (a 3), .ref (a 19), .ref (a 20), .ref (a 25), .int 0, .int (-1), .ref (a 32), .ref (a 35), .ref (a 42), .ref (a 43), .ref (a 44)])), ((a 1), .inr (6, [.ref (a 2), .int 2, .int 0, .int 0, .int 0, .int 0])), ((a 2), .inl (k 0, 240, .inl g_70))] H := hP
        have hD : va_D A [((a 0), .inr (7, [.ref (a 1), .ref (a 3), .ref (a 19), .ref (a 20), .ref (a 25), .int 0, .int (-1), .ref (a 32), .ref (a 35), .ref (a 42), .ref (a 43), .ref (a 44)])), ((a 1), .inr (6, [.ref (a 2), .int 2, .int 0, .int 0, .int 0, .int 0])), ((a 2), .inl (k 0, 240, .inl g_70))] := hD
        try dsimp only at hw_70
        refine lv_iinc (v := 3) (lv' := [(4, .int 3), (0, .ref (a 0)), (1, .int 6), (2, .long p1)]) hx hb dX7_feed_60 hl (k := 0) rfl (by decide) (by decide) rfl (fun ls hl => ?_)
        refine lv_goto (tgt := 39) hx hb dX7_feed_63 (by decide) ?_
        refine lv_iload hx hb dX7_feed_39 (lv_at hl 0 rfl) ?_
        refine lv_if_lt (tgt := 66) hx hb dX7_feed_41 (by decide) (fun h => absurd h (by decide)) (fun _ => ?_)
        refine lv_aload_n hx hb dX7_feed_44 rfl (lv_at hl 1 rfl) ?_
        refine va_get (D := D) (ci := 7) (v := .ref (a 1)) (C := RX7) (T := TX7) (N := 12) hx hb hts inX7 hown hK hP 0 rfl rfl 0 (by decide) (hts _ tw_305) (fun _ h9 => h9) rfl dX7_feed_45 ?_
        refine lv_lload_n hx hb dX7_feed_48 rfl (lv_at hl 3 rfl) ?_
        refine lv_bipush (v := 8) hx hb dX7_feed_49 (by decide) ?_
        refine lv_iload hx hb dX7_feed_51 (lv_at hl 0 rfl) ?_
        refine lv_imul hx hb dX7_feed_53 ?_
        refine lv_ti (y := 24) (by decide) ?_
        refine lv_lshr hx hb dX7_feed_54 rfl ?_
        refine lv_topl (fun x_71 ex_71 => ?_)
        refine lv_l2i hx hb dX7_feed_55 rfl ?_
        refine lv_topi (fun x_72 ex_72 => ?_)
        refine lv_i2b hx hb dX7_feed_56 rfl ?_
        refine lv_topi (fun x_73 ex_73 => ?_)
        refine rw_v (D := D) (wr := [((a 0), .inr (7, [.ref (a 1), .ref (a 3), .ref (a 19), .ref (a 20), .ref (a 25), .int 0, .int (-1), .ref (a 32), .ref (a 35), .ref (a 42), .ref (a 43), .ref (a 44)]))]) (va_runV (As := [.int x_73]) (rest := []) ⟨hx, hb, hml, hown, hts⟩ ((k_append l D k st lo (a 1) (a 2) 2 3 x_73 g_70 (by decide) (by unfold vp_in; decide) (by decide)) H.size) (cwV 1 hts (gV tw_346 tw_347 tw_348 tw_80 tw_349) rfl rfl rfl (by decide +kernel) ⟨Nat.le_of_ble_eq_true rfl, Nat.le_of_ble_eq_true rfl⟩) (pV hS hAlo hlo hP hK (va_Dlo hD hAlo) hZ [1, 2] (by decide) rfl (ci := 6) (q0 := 0) rfl rfl) rfl rfl hl.1 rfl (lv_room (Nat.le_of_ble_eq_true rfl)) dX7_feed_57 ⟨Nat.le_of_ble_eq_true rfl, Nat.le_of_ble_eq_true rfl⟩) hS hA hP hD [1, 2] [0] rfl rfl (by decide) (by decide) (fun u H locs hw_74 hP hD hS => ?_)
        obtain ⟨g_74, rfl⟩ : ∃ z, z = u := ⟨_, rfl⟩
        have hP : va_P D classes [((a 0), .inr (7, [.ref (a 1), .ref (a 3), .ref (a 19), .ref (a 20), .ref (a 25), .int 0, .int (-1), .ref (a 32), .ref (a 35), .ref (a 42), .ref (a 43), .ref (a 44)])), ((a 1), .inr (6, [.ref (a 2), .int 3, .int 0, .int 0, .int 0, .int 0])), ((a 2), .inl (k 0, 240, .inl g_74))] H := hP
        have hD : va_D A [((a 0), .inr (7, [.ref (a 1), .ref (a 3), .ref (a 19), .ref (a 20), .ref (a 25), .int 0, .int (-1), .ref (a 32), .ref (a 35), .ref (a 42), .ref (a 43), .ref (a 44)])), ((a 1), .inr (6, [.ref (a 2), .int 3, .int 0, .int 0, .int 0, .int 0])), ((a 2), .inl (k 0, 240, .inl g_74))] := hD
        try dsimp only at hw_74
        refine lv_iinc (v := 2) (lv' := [(4, .int 2), (0, .ref (a 0)), (1, .int 6), (2, .long p1)]) hx hb dX7_feed_60 hl (k := 0) rfl (by decide) (by decide) rfl (fun ls hl => ?_)
        refine lv_goto (tgt := 39) hx hb dX7_feed_63 (by decide) ?_
        refine lv_iload hx hb dX7_feed_39 (lv_at hl 0 rfl) ?_
        refine lv_if_lt (tgt := 66) hx hb dX7_feed_41 (by decide) (fun h => absurd h (by decide)) (fun _ => ?_)
        refine lv_aload_n hx hb dX7_feed_44 rfl (lv_at hl 1 rfl) ?_
        refine va_get (D := D) (ci := 7) (v := .ref (a 1)) (C := RX7) (T := TX7) (N := 12) hx hb hts inX7 hown hK hP 0 rfl rfl 0 (by decide) (hts _ tw_305) (fun _ h9 => h9) rfl dX7_feed_45 ?_
        refine lv_lload_n hx hb dX7_feed_48 rfl (lv_at hl 3 rfl) ?_
        refine lv_bipush (v := 8) hx hb dX7_feed_49 (by decide) ?_
        refine lv_iload hx hb dX7_feed_51 (lv_at hl 0 rfl) ?_
        refine lv_imul hx hb dX7_feed_53 ?_
        refine lv_ti (y := 16) (by decide) ?_
        refine lv_lshr hx hb dX7_feed_54 rfl ?_
        refine lv_topl (fun x_75 ex_75 => ?_)
        refine lv_l2i hx hb dX7_feed_55 rfl ?_
        refine lv_topi (fun x_76 ex_76 => ?_)
        refine lv_i2b hx hb dX7_feed_56 rfl ?_
        refine lv_topi (fun x_77 ex_77 => ?_)
        refine rw_v (D := D) (wr := [((a 0), .inr (7, [.ref (a 1), .ref (a 3), .ref (a 19), .ref (a 20), .ref (a 25), .int 0, .int (-1), .ref (a 32), .ref (a 35), .ref (a 42), .ref (a 43), .ref (a 44)]))]) (va_runV (As := [.int x_77]) (rest := []) ⟨hx, hb, hml, hown, hts⟩ ((k_append l D k st lo (a 1) (a 2) 3 4 x_77 g_74 (by decide) (by unfold vp_in; decide) (by decide)) H.size) (cwV 1 hts (gV tw_346 tw_347 tw_348 tw_80 tw_349) rfl rfl rfl (by decide +kernel) ⟨Nat.le_of_ble_eq_true rfl, Nat.le_of_ble_eq_true rfl⟩) (pV hS hAlo hlo hP hK (va_Dlo hD hAlo) hZ [1, 2] (by decide) rfl (ci := 6) (q0 := 0) rfl rfl) rfl rfl hl.1 rfl (lv_room (Nat.le_of_ble_eq_true rfl)) dX7_feed_57 ⟨Nat.le_of_ble_eq_true rfl, Nat.le_of_ble_eq_true rfl⟩) hS hA hP hD [1, 2] [0] rfl rfl (by decide) (by decide) (fun u H locs hw_78 hP hD hS => ?_)
        obtain ⟨g_78, rfl⟩ : ∃ z, z = u := ⟨_, rfl⟩
        have hP : va_P D classes [((a 0), .inr (7, [.ref (a 1), .ref (a 3), .ref (a 19), .ref (a 20), .ref (a 25), .int 0, .int (-1), .ref (a 32), .ref (a 35), .ref (a 42), .ref (a 43), .ref (a 44)])), ((a 1), .inr (6, [.ref (a 2), .int 4, .int 0, .int 0, .int 0, .int 0])), ((a 2), .inl (k 0, 240, .inl g_78))] H := hP
        have hD : va_D A [((a 0), .inr (7, [.ref (a 1), .ref (a 3), .ref (a 19), .ref (a 20), .ref (a 25), .int 0, .int (-1), .ref (a 32), .ref (a 35), .ref (a 42), .ref (a 43), .ref (a 44)])), ((a 1), .inr (6, [.ref (a 2), .int 4, .int 0, .int 0, .int 0, .int 0])), ((a 2), .inl (k 0, 240, .inl g_78))] := hD
        try dsimp only at hw_78
        refine lv_iinc (v := 1) (lv' := [(4, .int 1), (0, .ref (a 0)), (1, .int 6), (2, .long p1)]) hx hb dX7_feed_60 hl (k := 0) rfl (by decide) (by decide) rfl (fun ls hl => ?_)
        refine lv_goto (tgt := 39) hx hb dX7_feed_63 (by decide) ?_
        refine lv_iload hx hb dX7_feed_39 (lv_at hl 0 rfl) ?_
        refine lv_if_lt (tgt := 66) hx hb dX7_feed_41 (by decide) (fun h => absurd h (by decide)) (fun _ => ?_)
        refine lv_aload_n hx hb dX7_feed_44 rfl (lv_at hl 1 rfl) ?_
        refine va_get (D := D) (ci := 7) (v := .ref (a 1)) (C := RX7) (T := TX7) (N := 12) hx hb hts inX7 hown hK hP 0 rfl rfl 0 (by decide) (hts _ tw_305) (fun _ h9 => h9) rfl dX7_feed_45 ?_
        refine lv_lload_n hx hb dX7_feed_48 rfl (lv_at hl 3 rfl) ?_
        refine lv_bipush (v := 8) hx hb dX7_feed_49 (by decide) ?_
        refine lv_iload hx hb dX7_feed_51 (lv_at hl 0 rfl) ?_
        refine lv_imul hx hb dX7_feed_53 ?_
        refine lv_ti (y := 8) (by decide) ?_
        refine lv_lshr hx hb dX7_feed_54 rfl ?_
        refine lv_topl (fun x_79 ex_79 => ?_)
        refine lv_l2i hx hb dX7_feed_55 rfl ?_
        refine lv_topi (fun x_80 ex_80 => ?_)
        refine lv_i2b hx hb dX7_feed_56 rfl ?_
        refine lv_topi (fun x_81 ex_81 => ?_)
        refine rw_v (D := D) (wr := [((a 0), .inr (7, [.ref (a 1), .ref (a 3), .ref (a 19), .ref (a 20), .ref (a 25), .int 0, .int (-1), .ref (a 32), .ref (a 35), .ref (a 42), .ref (a 43), .ref (a 44)]))]) (va_runV (As := [.int x_81]) (rest := []) ⟨hx, hb, hml, hown, hts⟩ ((k_append l D k st lo (a 1) (a 2) 4 5 x_81 g_78 (by decide) (by unfold vp_in; decide) (by decide)) H.size) (cwV 1 hts (gV tw_346 tw_347 tw_348 tw_80 tw_349) rfl rfl rfl (by decide +kernel) ⟨Nat.le_of_ble_eq_true rfl, Nat.le_of_ble_eq_true rfl⟩) (pV hS hAlo hlo hP hK (va_Dlo hD hAlo) hZ [1, 2] (by decide) rfl (ci := 6) (q0 := 0) rfl rfl) rfl rfl hl.1 rfl (lv_room (Nat.le_of_ble_eq_true rfl)) dX7_feed_57 ⟨Nat.le_of_ble_eq_true rfl, Nat.le_of_ble_eq_true rfl⟩) hS hA hP hD [1, 2] [0] rfl rfl (by decide) (by decide) (fun u H locs hw_82 hP hD hS => ?_)
        obtain ⟨g_82, rfl⟩ : ∃ z, z = u := ⟨_, rfl⟩
        have hP : va_P D classes [((a 0), .inr (7, [.ref (a 1), .ref (a 3), .ref (a 19), .ref (a 20), .ref (a 25), .int 0, .int (-1), .ref (a 32), .ref (a 35), .ref (a 42), .ref (a 43), .ref (a 44)])), ((a 1), .inr (6, [.ref (a 2), .int 5, .int 0, .int 0, .int 0, .int 0])), ((a 2), .inl (k 0, 240, .inl g_82))] H := hP
        have hD : va_D A [((a 0), .inr (7, [.ref (a 1), .ref (a 3), .ref (a 19), .ref (a 20), .ref (a 25), .int 0, .int (-1), .ref (a 32), .ref (a 35), .ref (a 42), .ref (a 43), .ref (a 44)])), ((a 1), .inr (6, [.ref (a 2), .int 5, .int 0, .int 0, .int 0, .int 0])), ((a 2), .inl (k 0, 240, .inl g_82))] := hD
        try dsimp only at hw_82
        refine lv_iinc (v := 0) (lv' := [(4, .int 0), (0, .ref (a 0)), (1, .int 6), (2, .long p1)]) hx hb dX7_feed_60 hl (k := 0) rfl (by decide) (by decide) rfl (fun ls hl => ?_)
        refine lv_goto (tgt := 39) hx hb dX7_feed_63 (by decide) ?_
        refine lv_iload hx hb dX7_feed_39 (lv_at hl 0 rfl) ?_
        refine lv_if_lt (tgt := 66) hx hb dX7_feed_41 (by decide) (fun h => absurd h (by decide)) (fun _ => ?_)
        refine lv_aload_n hx hb dX7_feed_44 rfl (lv_at hl 1 rfl) ?_
        refine va_get (D := D) (ci := 7) (v := .ref (a 1)) (C := RX7) (T := TX7) (N := 12) hx hb hts inX7 hown hK hP 0 rfl rfl 0 (by decide) (hts _ tw_305) (fun _ h9 => h9) rfl dX7_feed_45 ?_
        refine lv_lload_n hx hb dX7_feed_48 rfl (lv_at hl 3 rfl) ?_
        refine lv_bipush (v := 8) hx hb dX7_feed_49 (by decide) ?_
        refine lv_iload hx hb dX7_feed_51 (lv_at hl 0 rfl) ?_
        refine lv_imul hx hb dX7_feed_53 ?_
        refine lv_ti (y := 0) (by decide) ?_
        refine lv_lshr hx hb dX7_feed_54 rfl ?_
        refine lv_topl (fun x_83 ex_83 => ?_)
        refine lv_l2i hx hb dX7_feed_55 rfl ?_
        refine lv_topi (fun x_84 ex_84 => ?_)
        refine lv_i2b hx hb dX7_feed_56 rfl ?_
        refine lv_topi (fun x_85 ex_85 => ?_)
        refine rw_v (D := D) (wr := [((a 0), .inr (7, [.ref (a 1), .ref (a 3), .ref (a 19), .ref (a 20), .ref (a 25), .int 0, .int (-1), .ref (a 32), .ref (a 35), .ref (a 42), .ref (a 43), .ref (a 44)]))]) (va_runV (As := [.int x_85]) (rest := []) ⟨hx, hb, hml, hown, hts⟩ ((k_append l D k st lo (a 1) (a 2) 5 6 x_85 g_82 (by decide) (by unfold vp_in; decide) (by decide)) H.size) (cwV 1 hts (gV tw_346 tw_347 tw_348 tw_80 tw_349) rfl rfl rfl (by decide +kernel) ⟨Nat.le_of_ble_eq_true rfl, Nat.le_of_ble_eq_true rfl⟩) (pV hS hAlo hlo hP hK (va_Dlo hD hAlo) hZ [1, 2] (by decide) rfl (ci := 6) (q0 := 0) rfl rfl) rfl rfl hl.1 rfl (lv_room (Nat.le_of_ble_eq_true rfl)) dX7_feed_57 ⟨Nat.le_of_ble_eq_true rfl, Nat.le_of_ble_eq_true rfl⟩) hS hA hP hD [1, 2] [0] rfl rfl (by decide) (by decide) (fun u H locs hw_86 hP hD hS => ?_)
        obtain ⟨g_86, rfl⟩ : ∃ z, z = u := ⟨_, rfl⟩
        have hP : va_P D classes [((a 0), .inr (7, [.ref (a 1), .ref (a 3), .ref (a 19), .ref (a 20), .ref (a 25), .int 0, .int (-1), .ref (a 32), .ref (a 35), .ref (a 42), .ref (a 43), .ref (a 44)])), ((a 1), .inr (6, [.ref (a 2), .int 6, .int 0, .int 0, .int 0, .int 0])), ((a 2), .inl (k 0, 240, .inl g_86))] H := hP
        have hD : va_D A [((a 0), .inr (7, [.ref (a 1), .ref (a 3), .ref (a 19), .ref (a 20), .ref (a 25), .int 0, .int (-1), .ref (a 32), .ref (a 35), .ref (a 42), .ref (a 43), .ref (a 44)])), ((a 1), .inr (6, [.ref (a 2), .int 6, .int 0, .int 0, .int 0, .int 0])), ((a 2), .inl (k 0, 240, .inl g_86))] := hD
        try dsimp only at hw_86
        refine lv_iinc (v := (-1)) (lv' := [(4, .int (-1)), (0, .ref (a 0)), (1, .int 6), (2, .long p1)]) hx hb dX7_feed_60 hl (k := 0) rfl (by decide) (by decide) rfl (fun ls hl => ?_)
        refine lv_goto (tgt := 39) hx hb dX7_feed_63 (by decide) ?_
        refine lv_iload hx hb dX7_feed_39 (lv_at hl 0 rfl) ?_
        refine lv_if_lt (tgt := 66) hx hb dX7_feed_41 (by decide) (fun _ => ?_) (fun h => absurd (by decide) h)
        refine lv_aload_n hx hb dX7_feed_66 rfl (lv_at hl 1 rfl) ?_
        refine va_get (D := D) (ci := 7) (v := .ref (a 1)) (C := RX7) (T := TX7) (N := 12) hx hb hts inX7 hown hK hP 0 rfl rfl 0 (by decide) (hts _ tw_305) (fun _ h9 => h9) rfl dX7_feed_67 ?_
        refine va_get (D := D) (ci := 6) (v := .int 6) (C := RX6) (T := TX6) (N := 6) hx hb hts inX6 hown hK hP 1 rfl rfl 1 (by decide) (hts _ tw_111) (fun _ h9 => h9) rfl dX7_feed_70 ?_
        have hP9 := hP.sub (ws' := []) [] rfl
        have hD9 := hD.sub (ws' := []) [] (by decide) rfl
        exact W.iret (v := 6) hx hb hr (fun t ht hW => ⟨⟨6, (), rfl, ⟨fun _ => rfl, fun h => absurd ⟨by decide, by decide⟩ h⟩, by rw [ht]; exact hP9, hD9⟩, hS.F ht⟩) hS.2.2 dX7_feed_73
      · refine lv_aload_n hx hb dX7_feed_15 rfl (lv_at hl 0 rfl) ?_
        refine va_get (D := D) (ci := 7) (v := .ref (a 1)) (C := RX7) (T := TX7) (N := 12) hx hb hts inX7 hown hK hP 0 rfl rfl 0 (by decide) (hts _ tw_305) (fun _ h9 => h9) rfl dX7_feed_16 ?_
        refine va_get (D := D) (ci := 6) (v := .int 0) (C := RX6) (T := TX6) (N := 6) hx hb hts inX6 hown hK hP 1 rfl rfl 1 (by decide) (hts _ tw_111) (fun _ h9 => h9) rfl dX7_feed_19 ?_
        refine lv_iload_n hx hb dX7_feed_22 rfl (lv_at hl 1 rfl) ?_
        refine lv_iadd hx hb dX7_feed_23 ?_
        refine lv_ti (y := 7) (by decide) ?_
        refine lv_sipush (v := 240) hx hb dX7_feed_24 (by decide) ?_
        refine lv_icmp_le (tgt := 34) hx hb dX7_feed_27 (by decide) (fun _ => ?_) (fun h => absurd (by decide) h)
        refine lv_iload_n hx hb dX7_feed_34 rfl (lv_at hl 1 rfl) ?_
        refine lv_iconst (v := 1) hx hb dX7_feed_35 (by decide) ?_
        refine lv_isub hx hb dX7_feed_36 ?_
        refine lv_ti (y := 6) (by decide) ?_
        refine lv_istore (lv' := [(4, .int 6), (0, .ref (a 0)), (1, .int 7), (2, .long p1)]) hx hb dX7_feed_37 hl (by decide) rfl (fun ls hl => ?_)
        refine lv_iload hx hb dX7_feed_39 (lv_at hl 0 rfl) ?_
        refine lv_if_lt (tgt := 66) hx hb dX7_feed_41 (by decide) (fun h => absurd h (by decide)) (fun _ => ?_)
        refine lv_aload_n hx hb dX7_feed_44 rfl (lv_at hl 1 rfl) ?_
        refine va_get (D := D) (ci := 7) (v := .ref (a 1)) (C := RX7) (T := TX7) (N := 12) hx hb hts inX7 hown hK hP 0 rfl rfl 0 (by decide) (hts _ tw_305) (fun _ h9 => h9) rfl dX7_feed_45 ?_
        refine lv_lload_n hx hb dX7_feed_48 rfl (lv_at hl 3 rfl) ?_
        refine lv_bipush (v := 8) hx hb dX7_feed_49 (by decide) ?_
        refine lv_iload hx hb dX7_feed_51 (lv_at hl 0 rfl) ?_
        refine lv_imul hx hb dX7_feed_53 ?_
        refine lv_ti (y := 48) (by decide) ?_
        refine lv_lshr hx hb dX7_feed_54 rfl ?_
        refine lv_topl (fun x_87 ex_87 => ?_)
        refine lv_l2i hx hb dX7_feed_55 rfl ?_
        refine lv_topi (fun x_88 ex_88 => ?_)
        refine lv_i2b hx hb dX7_feed_56 rfl ?_
        refine lv_topi (fun x_89 ex_89 => ?_)
        refine rw_v (D := D) (wr := [((a 0), .inr (7, [.ref (a 1), .ref (a 3), .ref (a 19), .ref (a 20), .ref (a 25), .int 0, .int (-1), .ref (a 32), .ref (a 35), .ref (a 42), .ref (a 43), .ref (a 44)]))]) (va_runV (As := [.int x_89]) (rest := []) ⟨hx, hb, hml, hown, hts⟩ ((k_append l D k st lo (a 1) (a 2) 0 1 x_89 (fun _ => 0) (by decide) (by unfold vp_in; decide) (by decide)) s.heap.size) (cwV 1 hts (gV tw_346 tw_347 tw_348 tw_80 tw_349) rfl rfl rfl (by decide +kernel) ⟨Nat.le_of_ble_eq_true rfl, Nat.le_of_ble_eq_true rfl⟩) (pV hS hAlo hlo hP hK (va_Dlo hD hAlo) hZ [1, 2] (by decide) rfl (ci := 6) (q0 := 0) rfl rfl) rfl rfl hl.1 rfl (lv_room (Nat.le_of_ble_eq_true rfl)) dX7_feed_57 ⟨Nat.le_of_ble_eq_true rfl, Nat.le_of_ble_eq_true rfl⟩) hS hA hP hD [1, 2] [0] rfl rfl (by decide) (by decide) (fun u H locs hw_90 hP hD hS => ?_)
        obtain ⟨g_90, rfl⟩ : ∃ z, z = u := ⟨_, rfl⟩
        have hP : va_P D classes [((a 0), .inr (7, [.ref (a 1), .ref (a 3), .ref (a 19), .ref (a 20), .ref (a 25), .int 0, .int (-1), .ref (a 32), .ref (a 35), .ref (a 42), .ref (a 43), .ref (a 44)])), ((a 1), .inr (6, [.ref (a 2), .int 1, .int 0, .int 0, .int 0, .int 0])), ((a 2), .inl (k 0, 240, .inl g_90))] H := hP
        have hD : va_D A [((a 0), .inr (7, [.ref (a 1), .ref (a 3), .ref (a 19), .ref (a 20), .ref (a 25), .int 0, .int (-1), .ref (a 32), .ref (a 35), .ref (a 42), .ref (a 43), .ref (a 44)])), ((a 1), .inr (6, [.ref (a 2), .int 1, .int 0, .int 0, .int 0, .int 0])), ((a 2), .inl (k 0, 240, .inl g_90))] := hD
        try dsimp only at hw_90
        refine lv_iinc (v := 5) (lv' := [(4, .int 5), (0, .ref (a 0)), (1, .int 7), (2, .long p1)]) hx hb dX7_feed_60 hl (k := 0) rfl (by decide) (by decide) rfl (fun ls hl => ?_)
        refine lv_goto (tgt := 39) hx hb dX7_feed_63 (by decide) ?_
        refine lv_iload hx hb dX7_feed_39 (lv_at hl 0 rfl) ?_
        refine lv_if_lt (tgt := 66) hx hb dX7_feed_41 (by decide) (fun h => absurd h (by decide)) (fun _ => ?_)
        refine lv_aload_n hx hb dX7_feed_44 rfl (lv_at hl 1 rfl) ?_
        refine va_get (D := D) (ci := 7) (v := .ref (a 1)) (C := RX7) (T := TX7) (N := 12) hx hb hts inX7 hown hK hP 0 rfl rfl 0 (by decide) (hts _ tw_305) (fun _ h9 => h9) rfl dX7_feed_45 ?_
        refine lv_lload_n hx hb dX7_feed_48 rfl (lv_at hl 3 rfl) ?_
        refine lv_bipush (v := 8) hx hb dX7_feed_49 (by decide) ?_
        refine lv_iload hx hb dX7_feed_51 (lv_at hl 0 rfl) ?_
        refine lv_imul hx hb dX7_feed_53 ?_
        refine lv_ti (y := 40) (by decide) ?_
        refine lv_lshr hx hb dX7_feed_54 rfl ?_
        refine lv_topl (fun x_91 ex_91 => ?_)
        refine lv_l2i hx hb dX7_feed_55 rfl ?_
        refine lv_topi (fun x_92 ex_92 => ?_)
        refine lv_i2b hx hb dX7_feed_56 rfl ?_
        refine lv_topi (fun x_93 ex_93 => ?_)
        refine rw_v (D := D) (wr := [((a 0), .inr (7, [.ref (a 1), .ref (a 3), .ref (a 19), .ref (a 20), .ref (a 25), .int 0, .int (-1), .ref (a 32), .ref (a 35), .ref (a 42), .ref (a 43), .ref (a 44)]))]) (va_runV (As := [.int x_93]) (rest := []) ⟨hx, hb, hml, hown, hts⟩ ((k_append l D k st lo (a 1) (a 2) 1 2 x_93 g_90 (by decide) (by unfold vp_in; decide) (by decide)) H.size) (cwV 1 hts (gV tw_346 tw_347 tw_348 tw_80 tw_349) rfl rfl rfl (by decide +kernel) ⟨Nat.le_of_ble_eq_true rfl, Nat.le_of_ble_eq_true rfl⟩) (pV hS hAlo hlo hP hK (va_Dlo hD hAlo) hZ [1, 2] (by decide) rfl (ci := 6) (q0 := 0) rfl rfl) rfl rfl hl.1 rfl (lv_room (Nat.le_of_ble_eq_true rfl)) dX7_feed_57 ⟨Nat.le_of_ble_eq_true rfl, Nat.le_of_ble_eq_true rfl⟩) hS hA hP hD [1, 2] [0] rfl rfl (by decide) (by decide) (fun u H locs hw_94 hP hD hS => ?_)
        obtain ⟨g_94, rfl⟩ : ∃ z, z = u := ⟨_, rfl⟩
        have hP : va_P D classes [((a 0), .inr (7, [.ref (a 1), .ref (a 3), .ref (a 19), .ref (a 20), .ref (a 25), .int 0, .int (-1), .ref (a 32), .ref (a 35), .ref (a 42), .ref (a 43), .ref (a 44)])), ((a 1), .inr (6, [.ref (a 2), .int 2, .int 0, .int 0, .int 0, .int 0])), ((a 2), .inl (k 0, 240, .inl g_94))] H := hP
        have hD : va_D A [((a 0), .inr (7, [.ref (a 1), .ref (a 3), .ref (a 19), .ref (a 20), .ref (a 25), .int 0, .int (-1), .ref (a 32), .ref (a 35), .ref (a 42), .ref (a 43), .ref (a 44)])), ((a 1), .inr (6, [.ref (a 2), .int 2, .int 0, .int 0, .int 0, .int 0])), ((a 2), .inl (k 0, 240, .inl g_94))] := hD
        try dsimp only at hw_94
        refine lv_iinc (v := 4) (lv' := [(4, .int 4), (0, .ref (a 0)), (1, .int 7), (2, .long p1)]) hx hb dX7_feed_60 hl (k := 0) rfl (by decide) (by decide) rfl (fun ls hl => ?_)
        refine lv_goto (tgt := 39) hx hb dX7_feed_63 (by decide) ?_
        refine lv_iload hx hb dX7_feed_39 (lv_at hl 0 rfl) ?_
        refine lv_if_lt (tgt := 66) hx hb dX7_feed_41 (by decide) (fun h => absurd h (by decide)) (fun _ => ?_)
        refine lv_aload_n hx hb dX7_feed_44 rfl (lv_at hl 1 rfl) ?_
        refine va_get (D := D) (ci := 7) (v := .ref (a 1)) (C := RX7) (T := TX7) (N := 12) hx hb hts inX7 hown hK hP 0 rfl rfl 0 (by decide) (hts _ tw_305) (fun _ h9 => h9) rfl dX7_feed_45 ?_
        refine lv_lload_n hx hb dX7_feed_48 rfl (lv_at hl 3 rfl) ?_
        refine lv_bipush (v := 8) hx hb dX7_feed_49 (by decide) ?_
        refine lv_iload hx hb dX7_feed_51 (lv_at hl 0 rfl) ?_
        refine lv_imul hx hb dX7_feed_53 ?_
        refine lv_ti (y := 32) (by decide) ?_
        refine lv_lshr hx hb dX7_feed_54 rfl ?_
        refine lv_topl (fun x_95 ex_95 => ?_)
        refine lv_l2i hx hb dX7_feed_55 rfl ?_
        refine lv_topi (fun x_96 ex_96 => ?_)
        refine lv_i2b hx hb dX7_feed_56 rfl ?_
        refine lv_topi (fun x_97 ex_97 => ?_)
        refine rw_v (D := D) (wr := [((a 0), .inr (7, [.ref (a 1), .ref (a 3), .ref (a 19), .ref (a 20), .ref (a 25), .int 0, .int (-1), .ref (a 32), .ref (a 35), .ref (a 42), .ref (a 43), .ref (a 44)]))]) (va_runV (As := [.int x_97]) (rest := []) ⟨hx, hb, hml, hown, hts⟩ ((k_append l D k st lo (a 1) (a 2) 2 3 x_97 g_94 (by decide) (by unfold vp_in; decide) (by decide)) H.size) (cwV 1 hts (gV tw_346 tw_347 tw_348 tw_80 tw_349) rfl rfl rfl (by decide +kernel) ⟨Nat.le_of_ble_eq_true rfl, Nat.le_of_ble_eq_true rfl⟩) (pV hS hAlo hlo hP hK (va_Dlo hD hAlo) hZ [1, 2] (by decide) rfl (ci := 6) (q0 := 0) rfl rfl) rfl rfl hl.1 rfl (lv_room (Nat.le_of_ble_eq_true rfl)) dX7_feed_57 ⟨Nat.le_of_ble_eq_true rfl, Nat.le_of_ble_eq_true rfl⟩) hS hA hP hD [1, 2] [0] rfl rfl (by decide) (by decide) (fun u H locs hw_98 hP hD hS => ?_)
        obtain ⟨g_98, rfl⟩ : ∃ z, z = u := ⟨_, rfl⟩
        have hP : va_P D classes [((a 0), .inr (7, [.ref (a 1), .ref (a 3), .ref (a 19), .ref (a 20), .ref (a 25), .int 0, .int (-1), .ref (a 32), .ref (a 35), .ref (a 42), .ref (a 43), .ref (a 44)])), ((a 1), .inr (6, [.ref (a 2), .int 3, .int 0, .int 0, .int 0, .int 0])), ((a 2), .inl (k 0, 240, .inl g_98))] H := hP
        have hD : va_D A [((a 0), .inr (7, [.ref (a 1), .ref (a 3), .ref (a 19), .ref (a 20), .ref (a 25), .int 0, .int (-1), .ref (a 32), .ref (a 35), .ref (a 42), .ref (a 43), .ref (a 44)])), ((a 1), .inr (6, [.ref (a 2), .int 3, .int 0, .int 0, .int 0, .int 0])), ((a 2), .inl (k 0, 240, .inl g_98))] := hD
        try dsimp only at hw_98
        refine lv_iinc (v := 3) (lv' := [(4, .int 3), (0, .ref (a 0)), (1, .int 7), (2, .long p1)]) hx hb dX7_feed_60 hl (k := 0) rfl (by decide) (by decide) rfl (fun ls hl => ?_)
        refine lv_goto (tgt := 39) hx hb dX7_feed_63 (by decide) ?_
        refine lv_iload hx hb dX7_feed_39 (lv_at hl 0 rfl) ?_
        refine lv_if_lt (tgt := 66) hx hb dX7_feed_41 (by decide) (fun h => absurd h (by decide)) (fun _ => ?_)
        refine lv_aload_n hx hb dX7_feed_44 rfl (lv_at hl 1 rfl) ?_
        refine va_get (D := D) (ci := 7) (v := .ref (a 1)) (C := RX7) (T := TX7) (N := 12) hx hb hts inX7 hown hK hP 0 rfl rfl 0 (by decide) (hts _ tw_305) (fun _ h9 => h9) rfl dX7_feed_45 ?_
        refine lv_lload_n hx hb dX7_feed_48 rfl (lv_at hl 3 rfl) ?_
        refine lv_bipush (v := 8) hx hb dX7_feed_49 (by decide) ?_
        refine lv_iload hx hb dX7_feed_51 (lv_at hl 0 rfl) ?_
        refine lv_imul hx hb dX7_feed_53 ?_
        refine lv_ti (y := 24) (by decide) ?_
        refine lv_lshr hx hb dX7_feed_54 rfl ?_
        refine lv_topl (fun x_99 ex_99 => ?_)
        refine lv_l2i hx hb dX7_feed_55 rfl ?_
        refine lv_topi (fun x_100 ex_100 => ?_)
        refine lv_i2b hx hb dX7_feed_56 rfl ?_
        refine lv_topi (fun x_101 ex_101 => ?_)
        refine rw_v (D := D) (wr := [((a 0), .inr (7, [.ref (a 1), .ref (a 3), .ref (a 19), .ref (a 20), .ref (a 25), .int 0, .int (-1), .ref (a 32), .ref (a 35), .ref (a 42), .ref (a 43), .ref (a 44)]))]) (va_runV (As := [.int x_101]) (rest := []) ⟨hx, hb, hml, hown, hts⟩ ((k_append l D k st lo (a 1) (a 2) 3 4 x_101 g_98 (by decide) (by unfold vp_in; decide) (by decide)) H.size) (cwV 1 hts (gV tw_346 tw_347 tw_348 tw_80 tw_349) rfl rfl rfl (by decide +kernel) ⟨Nat.le_of_ble_eq_true rfl, Nat.le_of_ble_eq_true rfl⟩) (pV hS hAlo hlo hP hK (va_Dlo hD hAlo) hZ [1, 2] (by decide) rfl (ci := 6) (q0 := 0) rfl rfl) rfl rfl hl.1 rfl (lv_room (Nat.le_of_ble_eq_true rfl)) dX7_feed_57 ⟨Nat.le_of_ble_eq_true rfl, Nat.le_of_ble_eq_true rfl⟩) hS hA hP hD [1, 2] [0] rfl rfl (by decide) (by decide) (fun u H locs hw_102 hP hD hS => ?_)
        obtain ⟨g_102, rfl⟩ : ∃ z, z = u := ⟨_, rfl⟩
        have hP : va_P D classes [((a 0), .inr (7, [.ref (a 1), .ref (a 3), .ref (a 19), .ref (a 20), .ref (a 25), .int 0, .int (-1), .ref (a 32), .ref (a 35), .ref (a 42), .ref (a 43), .ref (a 44)])), ((a 1), .inr (6, [.ref (a 2), .int 4, .int 0, .int 0, .int 0, .int 0])), ((a 2), .inl (k 0, 240, .inl g_102))] H := hP
        have hD : va_D A [((a 0), .inr (7, [.ref (a 1), .ref (a 3), .ref (a 19), .ref (a 20), .ref (a 25), .int 0, .int (-1), .ref (a 32), .ref (a 35), .ref (a 42), .ref (a 43), .ref (a 44)])), ((a 1), .inr (6, [.ref (a 2), .int 4, .int 0, .int 0, .int 0, .int 0])), ((a 2), .inl (k 0, 240, .inl g_102))] := hD
        try dsimp only at hw_102
        refine lv_iinc (v := 2) (lv' := [(4, .int 2), (0, .ref (a 0)), (1, .int 7), (2, .long p1)]) hx hb dX7_feed_60 hl (k := 0) rfl (by decide) (by decide) rfl (fun ls hl => ?_)
        refine lv_goto (tgt := 39) hx hb dX7_feed_63 (by decide) ?_
        refine lv_iload hx hb dX7_feed_39 (lv_at hl 0 rfl) ?_
        refine lv_if_lt (tgt := 66) hx hb dX7_feed_41 (by decide) (fun h => absurd h (by decide)) (fun _ => ?_)
        refine lv_aload_n hx hb dX7_feed_44 rfl (lv_at hl 1 rfl) ?_
        refine va_get (D := D) (ci := 7) (v := .ref (a 1)) (C := RX7) (T := TX7) (N := 12) hx hb hts inX7 hown hK hP 0 rfl rfl 0 (by decide) (hts _ tw_305) (fun _ h9 => h9) rfl dX7_feed_45 ?_
        refine lv_lload_n hx hb dX7_feed_48 rfl (lv_at hl 3 rfl) ?_
        refine lv_bipush (v := 8) hx hb dX7_feed_49 (by decide) ?_
        refine lv_iload hx hb dX7_feed_51 (lv_at hl 0 rfl) ?_
        refine lv_imul hx hb dX7_feed_53 ?_
        refine lv_ti (y := 16) (by decide) ?_
        refine lv_lshr hx hb dX7_feed_54 rfl ?_
        refine lv_topl (fun x_103 ex_103 => ?_)
        refine lv_l2i hx hb dX7_feed_55 rfl ?_
        refine lv_topi (fun x_104 ex_104 => ?_)
        refine lv_i2b hx hb dX7_feed_56 rfl ?_
        refine lv_topi (fun x_105 ex_105 => ?_)
        refine rw_v (D := D) (wr := [((a 0), .inr (7, [.ref (a 1), .ref (a 3), .ref (a 19), .ref (a 20), .ref (a 25), .int 0, .int (-1), .ref (a 32), .ref (a 35), .ref (a 42), .ref (a 43), .ref (a 44)]))]) (va_runV (As := [.int x_105]) (rest := []) ⟨hx, hb, hml, hown, hts⟩ ((k_append l D k st lo (a 1) (a 2) 4 5 x_105 g_102 (by decide) (by unfold vp_in; decide) (by decide)) H.size) (cwV 1 hts (gV tw_346 tw_347 tw_348 tw_80 tw_349) rfl rfl rfl (by decide +kernel) ⟨Nat.le_of_ble_eq_true rfl, Nat.le_of_ble_eq_true rfl⟩) (pV hS hAlo hlo hP hK (va_Dlo hD hAlo) hZ [1, 2] (by decide) rfl (ci := 6) (q0 := 0) rfl rfl) rfl rfl hl.1 rfl (lv_room (Nat.le_of_ble_eq_true rfl)) dX7_feed_57 ⟨Nat.le_of_ble_eq_true rfl, Nat.le_of_ble_eq_true rfl⟩) hS hA hP hD [1, 2] [0] rfl rfl (by decide) (by decide) (fun u H locs hw_106 hP hD hS => ?_)
        obtain ⟨g_106, rfl⟩ : ∃ z, z = u := ⟨_, rfl⟩
        have hP : va_P D classes [((a 0), .inr (7, [.ref (a 1), .ref (a 3), .ref (a 19), .ref (a 20), .ref (a 25), .int 0, .int (-1), .ref (a 32), .ref (a 35), .ref (a 42), .ref (a 43), .ref (a 44)])), ((a 1), .inr (6, [.ref (a 2), .int 5, .int 0, .int 0, .int 0, .int 0])), ((a 2), .inl (k 0, 240, .inl g_106))] H := hP
        have hD : va_D A [((a 0), .inr (7, [.ref (a 1), .ref (a 3), .ref (a 19), .ref (a 20), .ref (a 25), .int 0, .int (-1), .ref (a 32), .ref (a 35), .ref (a 42), .ref (a 43), .ref (a 44)])), ((a 1), .inr (6, [.ref (a 2), .int 5, .int 0, .int 0, .int 0, .int 0])), ((a 2), .inl (k 0, 240, .inl g_106))] := hD
        try dsimp only at hw_106
        refine lv_iinc (v := 1) (lv' := [(4, .int 1), (0, .ref (a 0)), (1, .int 7), (2, .long p1)]) hx hb dX7_feed_60 hl (k := 0) rfl (by decide) (by decide) rfl (fun ls hl => ?_)
        refine lv_goto (tgt := 39) hx hb dX7_feed_63 (by decide) ?_
        refine lv_iload hx hb dX7_feed_39 (lv_at hl 0 rfl) ?_
        refine lv_if_lt (tgt := 66) hx hb dX7_feed_41 (by decide) (fun h => absurd h (by decide)) (fun _ => ?_)
        refine lv_aload_n hx hb dX7_feed_44 rfl (lv_at hl 1 rfl) ?_
        refine va_get (D := D) (ci := 7) (v := .ref (a 1)) (C := RX7) (T := TX7) (N := 12) hx hb hts inX7 hown hK hP 0 rfl rfl 0 (by decide) (hts _ tw_305) (fun _ h9 => h9) rfl dX7_feed_45 ?_
        refine lv_lload_n hx hb dX7_feed_48 rfl (lv_at hl 3 rfl) ?_
        refine lv_bipush (v := 8) hx hb dX7_feed_49 (by decide) ?_
        refine lv_iload hx hb dX7_feed_51 (lv_at hl 0 rfl) ?_
        refine lv_imul hx hb dX7_feed_53 ?_
        refine lv_ti (y := 8) (by decide) ?_
        refine lv_lshr hx hb dX7_feed_54 rfl ?_
        refine lv_topl (fun x_107 ex_107 => ?_)
        refine lv_l2i hx hb dX7_feed_55 rfl ?_
        refine lv_topi (fun x_108 ex_108 => ?_)
        refine lv_i2b hx hb dX7_feed_56 rfl ?_
        refine lv_topi (fun x_109 ex_109 => ?_)
        refine rw_v (D := D) (wr := [((a 0), .inr (7, [.ref (a 1), .ref (a 3), .ref (a 19), .ref (a 20), .ref (a 25), .int 0, .int (-1), .ref (a 32), .ref (a 35), .ref (a 42), .ref (a 43), .ref (a 44)]))]) (va_runV (As := [.int x_109]) (rest := []) ⟨hx, hb, hml, hown, hts⟩ ((k_append l D k st lo (a 1) (a 2) 5 6 x_109 g_106 (by decide) (by unfold vp_in; decide) (by decide)) H.size) (cwV 1 hts (gV tw_346 tw_347 tw_348 tw_80 tw_349) rfl rfl rfl (by decide +kernel) ⟨Nat.le_of_ble_eq_true rfl, Nat.le_of_ble_eq_true rfl⟩) (pV hS hAlo hlo hP hK (va_Dlo hD hAlo) hZ [1, 2] (by decide) rfl (ci := 6) (q0 := 0) rfl rfl) rfl rfl hl.1 rfl (lv_room (Nat.le_of_ble_eq_true rfl)) dX7_feed_57 ⟨Nat.le_of_ble_eq_true rfl, Nat.le_of_ble_eq_true rfl⟩) hS hA hP hD [1, 2] [0] rfl rfl (by decide) (by decide) (fun u H locs hw_110 hP hD hS => ?_)
        obtain ⟨g_110, rfl⟩ : ∃ z, z = u := ⟨_, rfl⟩
        have hP : va_P D classes [((a 0), .inr (7, [.ref (a 1), .ref (a 3), .ref (a 19), .ref (a 20), .ref (a 25), .int 0, .int (-1), .ref (a 32), .ref (a 35), .ref (a 42), .ref (a 43), .ref (a 44)])), ((a 1), .inr (6, [.ref (a 2), .int 6, .int 0, .int 0, .int 0, .int 0])), ((a 2), .inl (k 0, 240, .inl g_110))] H := hP
        have hD : va_D A [((a 0), .inr (7, [.ref (a 1), .ref (a 3), .ref (a 19), .ref (a 20), .ref (a 25), .int 0, .int (-1), .ref (a 32), .ref (a 35), .ref (a 42), .ref (a 43), .ref (a 44)])), ((a 1), .inr (6, [.ref (a 2), .int 6, .int 0, .int 0, .int 0, .int 0])), ((a 2), .inl (k 0, 240, .inl g_110))] := hD
        try dsimp only at hw_110
        refine lv_iinc (v := 0) (lv' := [(4, .int 0), (0, .ref (a 0)), (1, .int 7), (2, .long p1)]) hx hb dX7_feed_60 hl (k := 0) rfl (by decide) (by decide) rfl (fun ls hl => ?_)
        refine lv_goto (tgt := 39) hx hb dX7_feed_63 (by decide) ?_
        refine lv_iload hx hb dX7_feed_39 (lv_at hl 0 rfl) ?_
        refine lv_if_lt (tgt := 66) hx hb dX7_feed_41 (by decide) (fun h => absurd h (by decide)) (fun _ => ?_)
        refine lv_aload_n hx hb dX7_feed_44 rfl (lv_at hl 1 rfl) ?_
        refine va_get (D := D) (ci := 7) (v := .ref (a 1)) (C := RX7) (T := TX7) (N := 12) hx hb hts inX7 hown hK hP 0 rfl rfl 0 (by decide) (hts _ tw_305) (fun _ h9 => h9) rfl dX7_feed_45 ?_
        refine lv_lload_n hx hb dX7_feed_48 rfl (lv_at hl 3 rfl) ?_
        refine lv_bipush (v := 8) hx hb dX7_feed_49 (by decide) ?_
        refine lv_iload hx hb dX7_feed_51 (lv_at hl 0 rfl) ?_
        refine lv_imul hx hb dX7_feed_53 ?_
        refine lv_ti (y := 0) (by decide) ?_
        refine lv_lshr hx hb dX7_feed_54 rfl ?_
        refine lv_topl (fun x_111 ex_111 => ?_)
        refine lv_l2i hx hb dX7_feed_55 rfl ?_
        refine lv_topi (fun x_112 ex_112 => ?_)
        refine lv_i2b hx hb dX7_feed_56 rfl ?_
        refine lv_topi (fun x_113 ex_113 => ?_)
        refine rw_v (D := D) (wr := [((a 0), .inr (7, [.ref (a 1), .ref (a 3), .ref (a 19), .ref (a 20), .ref (a 25), .int 0, .int (-1), .ref (a 32), .ref (a 35), .ref (a 42), .ref (a 43), .ref (a 44)]))]) (va_runV (As := [.int x_113]) (rest := []) ⟨hx, hb, hml, hown, hts⟩ ((k_append l D k st lo (a 1) (a 2) 6 7 x_113 g_110 (by decide) (by unfold vp_in; decide) (by decide)) H.size) (cwV 1 hts (gV tw_346 tw_347 tw_348 tw_80 tw_349) rfl rfl rfl (by decide +kernel) ⟨Nat.le_of_ble_eq_true rfl, Nat.le_of_ble_eq_true rfl⟩) (pV hS hAlo hlo hP hK (va_Dlo hD hAlo) hZ [1, 2] (by decide) rfl (ci := 6) (q0 := 0) rfl rfl) rfl rfl hl.1 rfl (lv_room (Nat.le_of_ble_eq_true rfl)) dX7_feed_57 ⟨Nat.le_of_ble_eq_true rfl, Nat.le_of_ble_eq_true rfl⟩) hS hA hP hD [1, 2] [0] rfl rfl (by decide) (by decide) (fun u H locs hw_114 hP hD hS => ?_)
        obtain ⟨g_114, rfl⟩ : ∃ z, z = u := ⟨_, rfl⟩
        have hP : va_P D classes [((a 0), .inr (7, [.ref (a 1), .ref (a 3), .ref (a 19), .ref (a 20), .ref (a 25), .int 0, .int (-1), .ref (a 32), .ref (a 35), .ref (a 42), .ref (a 43), .ref (a 44)])), ((a 1), .inr (6, [.ref (a 2), .int 7, .int 0, .int 0, .int 0, .int 0])), ((a 2), .inl (k 0, 240, .inl g_114))] H := hP
        have hD : va_D A [((a 0), .inr (7, [.ref (a 1), .ref (a 3), .ref (a 19), .ref (a 20), .ref (a 25), .int 0, .int (-1), .ref (a 32), .ref (a 35), .ref (a 42), .ref (a 43), .ref (a 44)])), ((a 1), .inr (6, [.ref (a 2), .int 7, .int 0, .int 0, .int 0, .int 0])), ((a 2), .inl (k 0, 240, .inl g_114))] := hD
        try dsimp only at hw_114
        refine lv_iinc (v := (-1)) (lv' := [(4, .int (-1)), (0, .ref (a 0)), (1, .int 7), (2, .long p1)]) hx hb dX7_feed_60 hl (k := 0) rfl (by decide) (by decide) rfl (fun ls hl => ?_)
        refine lv_goto (tgt := 39) hx hb dX7_feed_63 (by decide) ?_
        refine lv_iload hx hb dX7_feed_39 (lv_at hl 0 rfl) ?_
        refine lv_if_lt (tgt := 66) hx hb dX7_feed_41 (by decide) (fun _ => ?_) (fun h => absurd (by decide) h)
        refine lv_aload_n hx hb dX7_feed_66 rfl (lv_at hl 1 rfl) ?_
        refine va_get (D := D) (ci := 7) (v := .ref (a 1)) (C := RX7) (T := TX7) (N := 12) hx hb hts inX7 hown hK hP 0 rfl rfl 0 (by decide) (hts _ tw_305) (fun _ h9 => h9) rfl dX7_feed_67 ?_
        refine va_get (D := D) (ci := 6) (v := .int 7) (C := RX6) (T := TX6) (N := 6) hx hb hts inX6 hown hK hP 1 rfl rfl 1 (by decide) (hts _ tw_111) (fun _ h9 => h9) rfl dX7_feed_70 ?_
        have hP9 := hP.sub (ws' := []) [] rfl
        have hD9 := hD.sub (ws' := []) [] (by decide) rfl
        exact W.iret (v := 7) hx hb hr (fun t ht hW => ⟨⟨7, (), rfl, ⟨fun _ => rfl, fun h => absurd ⟨by decide, by decide⟩ h⟩, by rw [ht]; exact hP9, hD9⟩, hS.F ht⟩) hS.2.2 dX7_feed_73
      · refine lv_aload_n hx hb dX7_feed_15 rfl (lv_at hl 0 rfl) ?_
        refine va_get (D := D) (ci := 7) (v := .ref (a 1)) (C := RX7) (T := TX7) (N := 12) hx hb hts inX7 hown hK hP 0 rfl rfl 0 (by decide) (hts _ tw_305) (fun _ h9 => h9) rfl dX7_feed_16 ?_
        refine va_get (D := D) (ci := 6) (v := .int 0) (C := RX6) (T := TX6) (N := 6) hx hb hts inX6 hown hK hP 1 rfl rfl 1 (by decide) (hts _ tw_111) (fun _ h9 => h9) rfl dX7_feed_19 ?_
        refine lv_iload_n hx hb dX7_feed_22 rfl (lv_at hl 1 rfl) ?_
        refine lv_iadd hx hb dX7_feed_23 ?_
        refine lv_ti (y := 8) (by decide) ?_
        refine lv_sipush (v := 240) hx hb dX7_feed_24 (by decide) ?_
        refine lv_icmp_le (tgt := 34) hx hb dX7_feed_27 (by decide) (fun _ => ?_) (fun h => absurd (by decide) h)
        refine lv_iload_n hx hb dX7_feed_34 rfl (lv_at hl 1 rfl) ?_
        refine lv_iconst (v := 1) hx hb dX7_feed_35 (by decide) ?_
        refine lv_isub hx hb dX7_feed_36 ?_
        refine lv_ti (y := 7) (by decide) ?_
        refine lv_istore (lv' := [(4, .int 7), (0, .ref (a 0)), (1, .int 8), (2, .long p1)]) hx hb dX7_feed_37 hl (by decide) rfl (fun ls hl => ?_)
        refine lv_iload hx hb dX7_feed_39 (lv_at hl 0 rfl) ?_
        refine lv_if_lt (tgt := 66) hx hb dX7_feed_41 (by decide) (fun h => absurd h (by decide)) (fun _ => ?_)
        refine lv_aload_n hx hb dX7_feed_44 rfl (lv_at hl 1 rfl) ?_
        refine va_get (D := D) (ci := 7) (v := .ref (a 1)) (C := RX7) (T := TX7) (N := 12) hx hb hts inX7 hown hK hP 0 rfl rfl 0 (by decide) (hts _ tw_305) (fun _ h9 => h9) rfl dX7_feed_45 ?_
        refine lv_lload_n hx hb dX7_feed_48 rfl (lv_at hl 3 rfl) ?_
        refine lv_bipush (v := 8) hx hb dX7_feed_49 (by decide) ?_
        refine lv_iload hx hb dX7_feed_51 (lv_at hl 0 rfl) ?_
        refine lv_imul hx hb dX7_feed_53 ?_
        refine lv_ti (y := 56) (by decide) ?_
        refine lv_lshr hx hb dX7_feed_54 rfl ?_
        refine lv_topl (fun x_115 ex_115 => ?_)
        refine lv_l2i hx hb dX7_feed_55 rfl ?_
        refine lv_topi (fun x_116 ex_116 => ?_)
        refine lv_i2b hx hb dX7_feed_56 rfl ?_
        refine lv_topi (fun x_117 ex_117 => ?_)
        refine rw_v (D := D) (wr := [((a 0), .inr (7, [.ref (a 1), .ref (a 3), .ref (a 19), .ref (a 20), .ref (a 25), .int 0, .int (-1), .ref (a 32), .ref (a 35), .ref (a 42), .ref (a 43), .ref (a 44)]))]) (va_runV (As := [.int x_117]) (rest := []) ⟨hx, hb, hml, hown, hts⟩ ((k_append l D k st lo (a 1) (a 2) 0 1 x_117 (fun _ => 0) (by decide) (by unfold vp_in; decide) (by decide)) s.heap.size) (cwV 1 hts (gV tw_346 tw_347 tw_348 tw_80 tw_349) rfl rfl rfl (by decide +kernel) ⟨Nat.le_of_ble_eq_true rfl, Nat.le_of_ble_eq_true rfl⟩) (pV hS hAlo hlo hP hK (va_Dlo hD hAlo) hZ [1, 2] (by decide) rfl (ci := 6) (q0 := 0) rfl rfl) rfl rfl hl.1 rfl (lv_room (Nat.le_of_ble_eq_true rfl)) dX7_feed_57 ⟨Nat.le_of_ble_eq_true rfl, Nat.le_of_ble_eq_true rfl⟩) hS hA hP hD [1, 2] [0] rfl rfl (by decide) (by decide) (fun u H locs hw_118 hP hD hS => ?_)
        obtain ⟨g_118, rfl⟩ : ∃ z, z = u := ⟨_, rfl⟩
        have hP : va_P D classes [((a 0), .inr (7, [.ref (a 1), .ref (a 3), .ref (a 19), .ref (a 20), .ref (a 25), .int 0, .int (-1), .ref (a 32), .ref (a 35), .ref (a 42), .ref (a 43), .ref (a 44)])), ((a 1), .inr (6, [.ref (a 2), .int 1, .int 0, .int 0, .int 0, .int 0])), ((a 2), .inl (k 0, 240, .inl g_118))] H := hP
        have hD : va_D A [((a 0), .inr (7, [.ref (a 1), .ref (a 3), .ref (a 19), .ref (a 20), .ref (a 25), .int 0, .int (-1), .ref (a 32), .ref (a 35), .ref (a 42), .ref (a 43), .ref (a 44)])), ((a 1), .inr (6, [.ref (a 2), .int 1, .int 0, .int 0, .int 0, .int 0])), ((a 2), .inl (k 0, 240, .inl g_118))] := hD
        try dsimp only at hw_118
        refine lv_iinc (v := 6) (lv' := [(4, .int 6), (0, .ref (a 0)), (1, .int 8), (2, .long p1)]) hx hb dX7_feed_60 hl (k := 0) rfl (by decide) (by decide) rfl (fun ls hl => ?_)
        refine lv_goto (tgt := 39) hx hb dX7_feed_63 (by decide) ?_
        refine lv_iload hx hb dX7_feed_39 (lv_at hl 0 rfl) ?_
        refine lv_if_lt (tgt := 66) hx hb dX7_feed_41 (by decide) (fun h => absurd h (by decide)) (fun _ => ?_)
        refine lv_aload_n hx hb dX7_feed_44 rfl (lv_at hl 1 rfl) ?_
        refine va_get (D := D) (ci := 7) (v := .ref (a 1)) (C := RX7) (T := TX7) (N := 12) hx hb hts inX7 hown hK hP 0 rfl rfl 0 (by decide) (hts _ tw_305) (fun _ h9 => h9) rfl dX7_feed_45 ?_
        refine lv_lload_n hx hb dX7_feed_48 rfl (lv_at hl 3 rfl) ?_
        refine lv_bipush (v := 8) hx hb dX7_feed_49 (by decide) ?_
        refine lv_iload hx hb dX7_feed_51 (lv_at hl 0 rfl) ?_
        refine lv_imul hx hb dX7_feed_53 ?_
        refine lv_ti (y := 48) (by decide) ?_
        refine lv_lshr hx hb dX7_feed_54 rfl ?_
        refine lv_topl (fun x_119 ex_119 => ?_)
        refine lv_l2i hx hb dX7_feed_55 rfl ?_
        refine lv_topi (fun x_120 ex_120 => ?_)
        refine lv_i2b hx hb dX7_feed_56 rfl ?_
        refine lv_topi (fun x_121 ex_121 => ?_)
        refine rw_v (D := D) (wr := [((a 0), .inr (7, [.ref (a 1), .ref (a 3), .ref (a 19), .ref (a 20), .ref (a 25), .int 0, .int (-1), .ref (a 32), .ref (a 35), .ref (a 42), .ref (a 43), .ref (a 44)]))]) (va_runV (As := [.int x_121]) (rest := []) ⟨hx, hb, hml, hown, hts⟩ ((k_append l D k st lo (a 1) (a 2) 1 2 x_121 g_118 (by decide) (by unfold vp_in; decide) (by decide)) H.size) (cwV 1 hts (gV tw_346 tw_347 tw_348 tw_80 tw_349) rfl rfl rfl (by decide +kernel) ⟨Nat.le_of_ble_eq_true rfl, Nat.le_of_ble_eq_true rfl⟩) (pV hS hAlo hlo hP hK (va_Dlo hD hAlo) hZ [1, 2] (by decide) rfl (ci := 6) (q0 := 0) rfl rfl) rfl rfl hl.1 rfl (lv_room (Nat.le_of_ble_eq_true rfl)) dX7_feed_57 ⟨Nat.le_of_ble_eq_true rfl, Nat.le_of_ble_eq_true rfl⟩) hS hA hP hD [1, 2] [0] rfl rfl (by decide) (by decide) (fun u H locs hw_122 hP hD hS => ?_)
        obtain ⟨g_122, rfl⟩ : ∃ z, z = u := ⟨_, rfl⟩
        have hP : va_P D classes [((a 0), .inr (7, [.ref (a 1), .ref (a 3), .ref (a 19), .ref (a 20), .ref (a 25), .int 0, .int (-1), .ref (a 32), .ref (a 35), .ref (a 42), .ref (a 43), .ref (a 44)])), ((a 1), .inr (6, [.ref (a 2), .int 2, .int 0, .int 0, .int 0, .int 0])), ((a 2), .inl (k 0, 240, .inl g_122))] H := hP
        have hD : va_D A [((a 0), .inr (7, [.ref (a 1), .ref (a 3), .ref (a 19), .ref (a 20), .ref (a 25), .int 0, .int (-1), .ref (a 32), .ref (a 35), .ref (a 42), .ref (a 43), .ref (a 44)])), ((a 1), .inr (6, [.ref (a 2), .int 2, .int 0, .int 0, .int 0, .int 0])), ((a 2), .inl (k 0, 240, .inl g_122))] := hD
        try dsimp only at hw_122
        refine lv_iinc (v := 5) (lv' := [(4, .int 5), (0, .ref (a 0)), (1, .int 8), (2, .long p1)]) hx hb dX7_feed_60 hl (k := 0) rfl (by decide) (by decide) rfl (fun ls hl => ?_)
        refine lv_goto (tgt := 39) hx hb dX7_feed_63 (by decide) ?_
        refine lv_iload hx hb dX7_feed_39 (lv_at hl 0 rfl) ?_
        refine lv_if_lt (tgt := 66) hx hb dX7_feed_41 (by decide) (fun h => absurd h (by decide)) (fun _ => ?_)
        refine lv_aload_n hx hb dX7_feed_44 rfl (lv_at hl 1 rfl) ?_
        refine va_get (D := D) (ci := 7) (v := .ref (a 1)) (C := RX7) (T := TX7) (N := 12) hx hb hts inX7 hown hK hP 0 rfl rfl 0 (by decide) (hts _ tw_305) (fun _ h9 => h9) rfl dX7_feed_45 ?_
        refine lv_lload_n hx hb dX7_feed_48 rfl (lv_at hl 3 rfl) ?_
        refine lv_bipush (v := 8) hx hb dX7_feed_49 (by decide) ?_
        refine lv_iload hx hb dX7_feed_51 (lv_at hl 0 rfl) ?_
        refine lv_imul hx hb dX7_feed_53 ?_
        refine lv_ti (y := 40) (by decide) ?_
        refine lv_lshr hx hb dX7_feed_54 rfl ?_
        refine lv_topl (fun x_123 ex_123 => ?_)
        refine lv_l2i hx hb dX7_feed_55 rfl ?_
        refine lv_topi (fun x_124 ex_124 => ?_)
        refine lv_i2b hx hb dX7_feed_56 rfl ?_
        refine lv_topi (fun x_125 ex_125 => ?_)
        refine rw_v (D := D) (wr := [((a 0), .inr (7, [.ref (a 1), .ref (a 3), .ref (a 19), .ref (a 20), .ref (a 25), .int 0, .int (-1), .ref (a 32), .ref (a 35), .ref (a 42), .ref (a 43), .ref (a 44)]))]) (va_runV (As := [.int x_125]) (rest := []) ⟨hx, hb, hml, hown, hts⟩ ((k_append l D k st lo (a 1) (a 2) 2 3 x_125 g_122 (by decide) (by unfold vp_in; decide) (by decide)) H.size) (cwV 1 hts (gV tw_346 tw_347 tw_348 tw_80 tw_349) rfl rfl rfl (by decide +kernel) ⟨Nat.le_of_ble_eq_true rfl, Nat.le_of_ble_eq_true rfl⟩) (pV hS hAlo hlo hP hK (va_Dlo hD hAlo) hZ [1, 2] (by decide) rfl (ci := 6) (q0 := 0) rfl rfl) rfl rfl hl.1 rfl (lv_room (Nat.le_of_ble_eq_true rfl)) dX7_feed_57 ⟨Nat.le_of_ble_eq_true rfl, Nat.le_of_ble_eq_true rfl⟩) hS hA hP hD [1, 2] [0] rfl rfl (by decide) (by decide) (fun u H locs hw_126 hP hD hS => ?_)
        obtain ⟨g_126, rfl⟩ : ∃ z, z = u := ⟨_, rfl⟩
        have hP : va_P D classes [((a 0), .inr (7, [.ref (a 1), .ref (a 3), .ref (a 19), .ref (a 20), .ref (a 25), .int 0, .int (-1), .ref (a 32), .ref (a 35), .ref (a 42), .ref (a 43), .ref (a 44)])), ((a 1), .inr (6, [.ref (a 2), .int 3, .int 0, .int 0, .int 0, .int 0])), ((a 2), .inl (k 0, 240, .inl g_126))] H := hP
        have hD : va_D A [((a 0), .inr (7, [.ref (a 1), .ref (a 3), .ref (a 19), .ref (a 20), .ref (a 25), .int 0, .int (-1), .ref (a 32), .ref (a 35), .ref (a 42), .ref (a 43), .ref (a 44)])), ((a 1), .inr (6, [.ref (a 2), .int 3, .int 0, .int 0, .int 0, .int 0])), ((a 2), .inl (k 0, 240, .inl g_126))] := hD
        try dsimp only at hw_126
        refine lv_iinc (v := 4) (lv' := [(4, .int 4), (0, .ref (a 0)), (1, .int 8), (2, .long p1)]) hx hb dX7_feed_60 hl (k := 0) rfl (by decide) (by decide) rfl (fun ls hl => ?_)
        refine lv_goto (tgt := 39) hx hb dX7_feed_63 (by decide) ?_
        refine lv_iload hx hb dX7_feed_39 (lv_at hl 0 rfl) ?_
        refine lv_if_lt (tgt := 66) hx hb dX7_feed_41 (by decide) (fun h => absurd h (by decide)) (fun _ => ?_)
        refine lv_aload_n hx hb dX7_feed_44 rfl (lv_at hl 1 rfl) ?_
        refine va_get (D := D) (ci := 7) (v := .ref (a 1)) (C := RX7) (T := TX7) (N := 12) hx hb hts inX7 hown hK hP 0 rfl rfl 0 (by decide) (hts _ tw_305) (fun _ h9 => h9) rfl dX7_feed_45 ?_
        refine lv_lload_n hx hb dX7_feed_48 rfl (lv_at hl 3 rfl) ?_
        refine lv_bipush (v := 8) hx hb dX7_feed_49 (by decide) ?_
        refine lv_iload hx hb dX7_feed_51 (lv_at hl 0 rfl) ?_
        refine lv_imul hx hb dX7_feed_53 ?_
        refine lv_ti (y := 32) (by decide) ?_
        refine lv_lshr hx hb dX7_feed_54 rfl ?_
        refine lv_topl (fun x_127 ex_127 => ?_)
        refine lv_l2i hx hb dX7_feed_55 rfl ?_
        refine lv_topi (fun x_128 ex_128 => ?_)
        refine lv_i2b hx hb dX7_feed_56 rfl ?_
        refine lv_topi (fun x_129 ex_129 => ?_)
        refine rw_v (D := D) (wr := [((a 0), .inr (7, [.ref (a 1), .ref (a 3), .ref (a 19), .ref (a 20), .ref (a 25), .int 0, .int (-1), .ref (a 32), .ref (a 35), .ref (a 42), .ref (a 43), .ref (a 44)]))]) (va_runV (As := [.int x_129]) (rest := []) ⟨hx, hb, hml, hown, hts⟩ ((k_append l D k st lo (a 1) (a 2) 3 4 x_129 g_126 (by decide) (by unfold vp_in; decide) (by decide)) H.size) (cwV 1 hts (gV tw_346 tw_347 tw_348 tw_80 tw_349) rfl rfl rfl (by decide +kernel) ⟨Nat.le_of_ble_eq_true rfl, Nat.le_of_ble_eq_true rfl⟩) (pV hS hAlo hlo hP hK (va_Dlo hD hAlo) hZ [1, 2] (by decide) rfl (ci := 6) (q0 := 0) rfl rfl) rfl rfl hl.1 rfl (lv_room (Nat.le_of_ble_eq_true rfl)) dX7_feed_57 ⟨Nat.le_of_ble_eq_true rfl, Nat.le_of_ble_eq_true rfl⟩) hS hA hP hD [1, 2] [0] rfl rfl (by decide) (by decide) (fun u H locs hw_130 hP hD hS => ?_)
        obtain ⟨g_130, rfl⟩ : ∃ z, z = u := ⟨_, rfl⟩
        have hP : va_P D classes [((a 0), .inr (7, [.ref (a 1), .ref (a 3), .ref (a 19), .ref (a 20), .ref (a 25), .int 0, .int (-1), .ref (a 32), .ref (a 35), .ref (a 42), .ref (a 43), .ref (a 44)])), ((a 1), .inr (6, [.ref (a 2), .int 4, .int 0, .int 0, .int 0, .int 0])), ((a 2), .inl (k 0, 240, .inl g_130))] H := hP
        have hD : va_D A [((a 0), .inr (7, [.ref (a 1), .ref (a 3), .ref (a 19), .ref (a 20), .ref (a 25), .int 0, .int (-1), .ref (a 32), .ref (a 35), .ref (a 42), .ref (a 43), .ref (a 44)])), ((a 1), .inr (6, [.ref (a 2), .int 4, .int 0, .int 0, .int 0, .int 0])), ((a 2), .inl (k 0, 240, .inl g_130))] := hD
        try dsimp only at hw_130
        refine lv_iinc (v := 3) (lv' := [(4, .int 3), (0, .ref (a 0)), (1, .int 8), (2, .long p1)]) hx hb dX7_feed_60 hl (k := 0) rfl (by decide) (by decide) rfl (fun ls hl => ?_)
        refine lv_goto (tgt := 39) hx hb dX7_feed_63 (by decide) ?_
        refine lv_iload hx hb dX7_feed_39 (lv_at hl 0 rfl) ?_
        refine lv_if_lt (tgt := 66) hx hb dX7_feed_41 (by decide) (fun h => absurd h (by decide)) (fun _ => ?_)
        refine lv_aload_n hx hb dX7_feed_44 rfl (lv_at hl 1 rfl) ?_
        refine va_get (D := D) (ci := 7) (v := .ref (a 1)) (C := RX7) (T := TX7) (N := 12) hx hb hts inX7 hown hK hP 0 rfl rfl 0 (by decide) (hts _ tw_305) (fun _ h9 => h9) rfl dX7_feed_45 ?_
        refine lv_lload_n hx hb dX7_feed_48 rfl (lv_at hl 3 rfl) ?_
        refine lv_bipush (v := 8) hx hb dX7_feed_49 (by decide) ?_
        refine lv_iload hx hb dX7_feed_51 (lv_at hl 0 rfl) ?_
        refine lv_imul hx hb dX7_feed_53 ?_
        refine lv_ti (y := 24) (by decide) ?_
        refine lv_lshr hx hb dX7_feed_54 rfl ?_
        refine lv_topl (fun x_131 ex_131 => ?_)
        refine lv_l2i hx hb dX7_feed_55 rfl ?_
        refine lv_topi (fun x_132 ex_132 => ?_)
        refine lv_i2b hx hb dX7_feed_56 rfl ?_
        refine lv_topi (fun x_133 ex_133 => ?_)
        refine rw_v (D := D) (wr := [((a 0), .inr (7, [.ref (a 1), .ref (a 3), .ref (a 19), .ref (a 20), .ref (a 25), .int 0, .int (-1), .ref (a 32), .ref (a 35), .ref (a 42), .ref (a 43), .ref (a 44)]))]) (va_runV (As := [.int x_133]) (rest := []) ⟨hx, hb, hml, hown, hts⟩ ((k_append l D k st lo (a 1) (a 2) 4 5 x_133 g_130 (by decide) (by unfold vp_in; decide) (by decide)) H.size) (cwV 1 hts (gV tw_346 tw_347 tw_348 tw_80 tw_349) rfl rfl rfl (by decide +kernel) ⟨Nat.le_of_ble_eq_true rfl, Nat.le_of_ble_eq_true rfl⟩) (pV hS hAlo hlo hP hK (va_Dlo hD hAlo) hZ [1, 2] (by decide) rfl (ci := 6) (q0 := 0) rfl rfl) rfl rfl hl.1 rfl (lv_room (Nat.le_of_ble_eq_true rfl)) dX7_feed_57 ⟨Nat.le_of_ble_eq_true rfl, Nat.le_of_ble_eq_true rfl⟩) hS hA hP hD [1, 2] [0] rfl rfl (by decide) (by decide) (fun u H locs hw_134 hP hD hS => ?_)
        obtain ⟨g_134, rfl⟩ : ∃ z, z = u := ⟨_, rfl⟩
        have hP : va_P D classes [((a 0), .inr (7, [.ref (a 1), .ref (a 3), .ref (a 19), .ref (a 20), .ref (a 25), .int 0, .int (-1), .ref (a 32), .ref (a 35), .ref (a 42), .ref (a 43), .ref (a 44)])), ((a 1), .inr (6, [.ref (a 2), .int 5, .int 0, .int 0, .int 0, .int 0])), ((a 2), .inl (k 0, 240, .inl g_134))] H := hP
        have hD : va_D A [((a 0), .inr (7, [.ref (a 1), .ref (a 3), .ref (a 19), .ref (a 20), .ref (a 25), .int 0, .int (-1), .ref (a 32), .ref (a 35), .ref (a 42), .ref (a 43), .ref (a 44)])), ((a 1), .inr (6, [.ref (a 2), .int 5, .int 0, .int 0, .int 0, .int 0])), ((a 2), .inl (k 0, 240, .inl g_134))] := hD
        try dsimp only at hw_134
        refine lv_iinc (v := 2) (lv' := [(4, .int 2), (0, .ref (a 0)), (1, .int 8), (2, .long p1)]) hx hb dX7_feed_60 hl (k := 0) rfl (by decide) (by decide) rfl (fun ls hl => ?_)
        refine lv_goto (tgt := 39) hx hb dX7_feed_63 (by decide) ?_
        refine lv_iload hx hb dX7_feed_39 (lv_at hl 0 rfl) ?_
        refine lv_if_lt (tgt := 66) hx hb dX7_feed_41 (by decide) (fun h => absurd h (by decide)) (fun _ => ?_)
        refine lv_aload_n hx hb dX7_feed_44 rfl (lv_at hl 1 rfl) ?_
        refine va_get (D := D) (ci := 7) (v := .ref (a 1)) (C := RX7) (T := TX7) (N := 12) hx hb hts inX7 hown hK hP 0 rfl rfl 0 (by decide) (hts _ tw_305) (fun _ h9 => h9) rfl dX7_feed_45 ?_
        refine lv_lload_n hx hb dX7_feed_48 rfl (lv_at hl 3 rfl) ?_
        refine lv_bipush (v := 8) hx hb dX7_feed_49 (by decide) ?_
        refine lv_iload hx hb dX7_feed_51 (lv_at hl 0 rfl) ?_
        refine lv_imul hx hb dX7_feed_53 ?_
        refine lv_ti (y := 16) (by decide) ?_
        refine lv_lshr hx hb dX7_feed_54 rfl ?_
        refine lv_topl (fun x_135 ex_135 => ?_)
        refine lv_l2i hx hb dX7_feed_55 rfl ?_
        refine lv_topi (fun x_136 ex_136 => ?_)
        refine lv_i2b hx hb dX7_feed_56 rfl ?_
        refine lv_topi (fun x_137 ex_137 => ?_)
        refine rw_v (D := D) (wr := [((a 0), .inr (7, [.ref (a 1), .ref (a 3), .ref (a 19), .ref (a 20), .ref (a 25), .int 0, .int (-1), .ref (a 32), .ref (a 35), .ref (a 42), .ref (a 43), .ref (a 44)]))]) (va_runV (As := [.int x_137]) (rest := []) ⟨hx, hb, hml, hown, hts⟩ ((k_append l D k st lo (a 1) (a 2) 5 6 x_137 g_134 (by decide) (by unfold vp_in; decide) (by decide)) H.size) (cwV 1 hts (gV tw_346 tw_347 tw_348 tw_80 tw_349) rfl rfl rfl (by decide +kernel) ⟨Nat.le_of_ble_eq_true rfl, Nat.le_of_ble_eq_true rfl⟩) (pV hS hAlo hlo hP hK (va_Dlo hD hAlo) hZ [1, 2] (by decide) rfl (ci := 6) (q0 := 0) rfl rfl) rfl rfl hl.1 rfl (lv_room (Nat.le_of_ble_eq_true rfl)) dX7_feed_57 ⟨Nat.le_of_ble_eq_true rfl, Nat.le_of_ble_eq_true rfl⟩) hS hA hP hD [1, 2] [0] rfl rfl (by decide) (by decide) (fun u H locs hw_138 hP hD hS => ?_)
        obtain ⟨g_138, rfl⟩ : ∃ z, z = u := ⟨_, rfl⟩
        have hP : va_P D classes [((a 0), .inr (7, [.ref (a 1), .ref (a 3), .ref (a 19), .ref (a 20), .ref (a 25), .int 0, .int (-1), .ref (a 32), .ref (a 35), .ref (a 42), .ref (a 43), .ref (a 44)])), ((a 1), .inr (6, [.ref (a 2), .int 6, .int 0, .int 0, .int 0, .int 0])), ((a 2), .inl (k 0, 240, .inl g_138))] H := hP
        have hD : va_D A [((a 0), .inr (7, [.ref (a 1), .ref (a 3), .ref (a 19), .ref (a 20), .ref (a 25), .int 0, .int (-1), .ref (a 32), .ref (a 35), .ref (a 42), .ref (a 43), .ref (a 44)])), ((a 1), .inr (6, [.ref (a 2), .int 6, .int 0, .int 0, .int 0, .int 0])), ((a 2), .inl (k 0, 240, .inl g_138))] := hD
        try dsimp only at hw_138
        refine lv_iinc (v := 1) (lv' := [(4, .int 1), (0, .ref (a 0)), (1, .int 8), (2, .long p1)]) hx hb dX7_feed_60 hl (k := 0) rfl (by decide) (by decide) rfl (fun ls hl => ?_)
        refine lv_goto (tgt := 39) hx hb dX7_feed_63 (by decide) ?_
        refine lv_iload hx hb dX7_feed_39 (lv_at hl 0 rfl) ?_
        refine lv_if_lt (tgt := 66) hx hb dX7_feed_41 (by decide) (fun h => absurd h (by decide)) (fun _ => ?_)
        refine lv_aload_n hx hb dX7_feed_44 rfl (lv_at hl 1 rfl) ?_
        refine va_get (D := D) (ci := 7) (v := .ref (a 1)) (C := RX7) (T := TX7) (N := 12) hx hb hts inX7 hown hK hP 0 rfl rfl 0 (by decide) (hts _ tw_305) (fun _ h9 => h9) rfl dX7_feed_45 ?_
        refine lv_lload_n hx hb dX7_feed_48 rfl (lv_at hl 3 rfl) ?_
        refine lv_bipush (v := 8) hx hb dX7_feed_49 (by decide) ?_
        refine lv_iload hx hb dX7_feed_51 (lv_at hl 0 rfl) ?_
        refine lv_imul hx hb dX7_feed_53 ?_
        refine lv_ti (y := 8) (by decide) ?_
        refine lv_lshr hx hb dX7_feed_54 rfl ?_
        refine lv_topl (fun x_139 ex_139 => ?_)
        refine lv_l2i hx hb dX7_feed_55 rfl ?_
        refine lv_topi (fun x_140 ex_140 => ?_)
        refine lv_i2b hx hb dX7_feed_56 rfl ?_
        refine lv_topi (fun x_141 ex_141 => ?_)
        refine rw_v (D := D) (wr := [((a 0), .inr (7, [.ref (a 1), .ref (a 3), .ref (a 19), .ref (a 20), .ref (a 25), .int 0, .int (-1), .ref (a 32), .ref (a 35), .ref (a 42), .ref (a 43), .ref (a 44)]))]) (va_runV (As := [.int x_141]) (rest := []) ⟨hx, hb, hml, hown, hts⟩ ((k_append l D k st lo (a 1) (a 2) 6 7 x_141 g_138 (by decide) (by unfold vp_in; decide) (by decide)) H.size) (cwV 1 hts (gV tw_346 tw_347 tw_348 tw_80 tw_349) rfl rfl rfl (by decide +kernel) ⟨Nat.le_of_ble_eq_true rfl, Nat.le_of_ble_eq_true rfl⟩) (pV hS hAlo hlo hP hK (va_Dlo hD hAlo) hZ [1, 2] (by decide) rfl (ci := 6) (q0 := 0) rfl rfl) rfl rfl hl.1 rfl (lv_room (Nat.le_of_ble_eq_true rfl)) dX7_feed_57 ⟨Nat.le_of_ble_eq_true rfl, Nat.le_of_ble_eq_true rfl⟩) hS hA hP hD [1, 2] [0] rfl rfl (by decide) (by decide) (fun u H locs hw_142 hP hD hS => ?_)
        obtain ⟨g_142, rfl⟩ : ∃ z, z = u := ⟨_, rfl⟩
        have hP : va_P D classes [((a 0), .inr (7, [.ref (a 1), .ref (a 3), .ref (a 19), .ref (a 20), .ref (a 25), .int 0, .int (-1), .ref (a 32), .ref (a 35), .ref (a 42), .ref (a 43), .ref (a 44)])), ((a 1), .inr (6, [.ref (a 2), .int 7, .int 0, .int 0, .int 0, .int 0])), ((a 2), .inl (k 0, 240, .inl g_142))] H := hP
        have hD : va_D A [((a 0), .inr (7, [.ref (a 1), .ref (a 3), .ref (a 19), .ref (a 20), .ref (a 25), .int 0, .int (-1), .ref (a 32), .ref (a 35), .ref (a 42), .ref (a 43), .ref (a 44)])), ((a 1), .inr (6, [.ref (a 2), .int 7, .int 0, .int 0, .int 0, .int 0])), ((a 2), .inl (k 0, 240, .inl g_142))] := hD
        try dsimp only at hw_142
        refine lv_iinc (v := 0) (lv' := [(4, .int 0), (0, .ref (a 0)), (1, .int 8), (2, .long p1)]) hx hb dX7_feed_60 hl (k := 0) rfl (by decide) (by decide) rfl (fun ls hl => ?_)
        refine lv_goto (tgt := 39) hx hb dX7_feed_63 (by decide) ?_
        refine lv_iload hx hb dX7_feed_39 (lv_at hl 0 rfl) ?_
        refine lv_if_lt (tgt := 66) hx hb dX7_feed_41 (by decide) (fun h => absurd h (by decide)) (fun _ => ?_)
        refine lv_aload_n hx hb dX7_feed_44 rfl (lv_at hl 1 rfl) ?_
        refine va_get (D := D) (ci := 7) (v := .ref (a 1)) (C := RX7) (T := TX7) (N := 12) hx hb hts inX7 hown hK hP 0 rfl rfl 0 (by decide) (hts _ tw_305) (fun _ h9 => h9) rfl dX7_feed_45 ?_
        refine lv_lload_n hx hb dX7_feed_48 rfl (lv_at hl 3 rfl) ?_
        refine lv_bipush (v := 8) hx hb dX7_feed_49 (by decide) ?_
        refine lv_iload hx hb dX7_feed_51 (lv_at hl 0 rfl) ?_
        refine lv_imul hx hb dX7_feed_53 ?_
        refine lv_ti (y := 0) (by decide) ?_
        refine lv_lshr hx hb dX7_feed_54 rfl ?_
        refine lv_topl (fun x_143 ex_143 => ?_)
        refine lv_l2i hx hb dX7_feed_55 rfl ?_
        refine lv_topi (fun x_144 ex_144 => ?_)
        refine lv_i2b hx hb dX7_feed_56 rfl ?_
        refine lv_topi (fun x_145 ex_145 => ?_)
        refine rw_v (D := D) (wr := [((a 0), .inr (7, [.ref (a 1), .ref (a 3), .ref (a 19), .ref (a 20), .ref (a 25), .int 0, .int (-1), .ref (a 32), .ref (a 35), .ref (a 42), .ref (a 43), .ref (a 44)]))]) (va_runV (As := [.int x_145]) (rest := []) ⟨hx, hb, hml, hown, hts⟩ ((k_append l D k st lo (a 1) (a 2) 7 8 x_145 g_142 (by decide) (by unfold vp_in; decide) (by decide)) H.size) (cwV 1 hts (gV tw_346 tw_347 tw_348 tw_80 tw_349) rfl rfl rfl (by decide +kernel) ⟨Nat.le_of_ble_eq_true rfl, Nat.le_of_ble_eq_true rfl⟩) (pV hS hAlo hlo hP hK (va_Dlo hD hAlo) hZ [1, 2] (by decide) rfl (ci := 6) (q0 := 0) rfl rfl) rfl rfl hl.1 rfl (lv_room (Nat.le_of_ble_eq_true rfl)) dX7_feed_57 ⟨Nat.le_of_ble_eq_true rfl, Nat.le_of_ble_eq_true rfl⟩) hS hA hP hD [1, 2] [0] rfl rfl (by decide) (by decide) (fun u H locs hw_146 hP hD hS => ?_)
        obtain ⟨g_146, rfl⟩ : ∃ z, z = u := ⟨_, rfl⟩
        have hP : va_P D classes [((a 0), .inr (7, [.ref (a 1), .ref (a 3), .ref (a 19), .ref (a 20), .ref (a 25), .int 0, .int (-1), .ref (a 32), .ref (a 35), .ref (a 42), .ref (a 43), .ref (a 44)])), ((a 1), .inr (6, [.ref (a 2), .int 8, .int 0, .int 0, .int 0, .int 0])), ((a 2), .inl (k 0, 240, .inl g_146))] H := hP
        have hD : va_D A [((a 0), .inr (7, [.ref (a 1), .ref (a 3), .ref (a 19), .ref (a 20), .ref (a 25), .int 0, .int (-1), .ref (a 32), .ref (a 35), .ref (a 42), .ref (a 43), .ref (a 44)])), ((a 1), .inr (6, [.ref (a 2), .int 8, .int 0, .int 0, .int 0, .int 0])), ((a 2), .inl (k 0, 240, .inl g_146))] := hD
        try dsimp only at hw_146
        refine lv_iinc (v := (-1)) (lv' := [(4, .int (-1)), (0, .ref (a 0)), (1, .int 8), (2, .long p1)]) hx hb dX7_feed_60 hl (k := 0) rfl (by decide) (by decide) rfl (fun ls hl => ?_)
        refine lv_goto (tgt := 39) hx hb dX7_feed_63 (by decide) ?_
        refine lv_iload hx hb dX7_feed_39 (lv_at hl 0 rfl) ?_
        refine lv_if_lt (tgt := 66) hx hb dX7_feed_41 (by decide) (fun _ => ?_) (fun h => absurd (by decide) h)
        refine lv_aload_n hx hb dX7_feed_66 rfl (lv_at hl 1 rfl) ?_
        refine va_get (D := D) (ci := 7) (v := .ref (a 1)) (C := RX7) (T := TX7) (N := 12) hx hb hts inX7 hown hK hP 0 rfl rfl 0 (by decide) (hts _ tw_305) (fun _ h9 => h9) rfl dX7_feed_67 ?_
        refine va_get (D := D) (ci := 6) (v := .int 8) (C := RX6) (T := TX6) (N := 6) hx hb hts inX6 hown hK hP 1 rfl rfl 1 (by decide) (hts _ tw_111) (fun _ h9 => h9) rfl dX7_feed_70 ?_
        have hP9 := hP.sub (ws' := []) [] rfl
        have hD9 := hD.sub (ws' := []) [] (by decide) rfl
        exact W.iret (v := 8) hx hb hr (fun t ht hW => ⟨⟨8, (), rfl, ⟨fun _ => rfl, fun h => absurd ⟨by decide, by decide⟩ h⟩, by rw [ht]; exact hP9, hD9⟩, hS.F ht⟩) hS.2.2 dX7_feed_73
    · refine lv_sipush (v := (-1002)) hx hb dX7_feed_11 (by decide) ?_
      have hP9 := hP.sub (ws' := []) [] rfl
      have hD9 := hD.sub (ws' := []) [] (by decide) rfl
      exact W.iret (v := (-1002)) hx hb hr (fun t ht hW => ⟨⟨(-1002), (), rfl, (by first | exact ⟨fun h => absurd c_1 (Int32.not_lt.mpr h.1), fun _ => rfl⟩ | exact ⟨fun h => absurd h.2 c_2, fun _ => rfl⟩), by rw [ht]; exact hP9, hD9⟩, hS.F ht⟩) hS.2.2 dX7_feed_14


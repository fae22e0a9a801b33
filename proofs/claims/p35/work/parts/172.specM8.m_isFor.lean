theorem dX8_isFor_0 : decode cX8_isFor 0 = .ok (.aload_n 0, 1) := by decide +kernel
theorem dX8_isFor_1 : decode cX8_isFor 1 = .ok (.getfield 63, 3) := by decide +kernel
theorem dX8_isFor_4 : decode cX8_isFor 4 = .ok (.bipush 12, 2) := by decide +kernel
theorem dX8_isFor_6 : decode cX8_isFor 6 = .ok (.iload_n 1, 1) := by decide +kernel
theorem dX8_isFor_7 : decode cX8_isFor 7 = .ok (.imul, 1) := by decide +kernel
theorem dX8_isFor_8 : decode cX8_isFor 8 = .ok (.iaload, 1) := by decide +kernel
theorem dX8_isFor_9 : decode cX8_isFor 9 = .ok (.istore 4, 2) := by decide +kernel
theorem dX8_isFor_11 : decode cX8_isFor 11 = .ok (.iconst 1, 1) := by decide +kernel
theorem dX8_isFor_12 : decode cX8_isFor 12 = .ok (.istore 5, 2) := by decide +kernel
theorem dX8_isFor_14 : decode cX8_isFor 14 = .ok (.iload 5, 2) := by decide +kernel
theorem dX8_isFor_16 : decode cX8_isFor 16 = .ok (.aload_n 0, 1) := by decide +kernel
theorem dX8_isFor_17 : decode cX8_isFor 17 = .ok (.getfield 57, 3) := by decide +kernel
theorem dX8_isFor_20 : decode cX8_isFor 20 = .ok (.iload_n 1, 1) := by decide +kernel
theorem dX8_isFor_21 : decode cX8_isFor 21 = .ok (.iaload, 1) := by decide +kernel
theorem dX8_isFor_22 : decode cX8_isFor 22 = .ok (.if_icmp .ge 44, 3) := by decide +kernel
theorem dX8_isFor_25 : decode cX8_isFor 25 = .ok (.aload_n 0, 1) := by decide +kernel
theorem dX8_isFor_26 : decode cX8_isFor 26 = .ok (.getfield 60, 3) := by decide +kernel
theorem dX8_isFor_29 : decode cX8_isFor 29 = .ok (.bipush 12, 2) := by decide +kernel
theorem dX8_isFor_31 : decode cX8_isFor 31 = .ok (.iload_n 1, 1) := by decide +kernel
theorem dX8_isFor_32 : decode cX8_isFor 32 = .ok (.imul, 1) := by decide +kernel
theorem dX8_isFor_33 : decode cX8_isFor 33 = .ok (.iload 5, 2) := by decide +kernel
theorem dX8_isFor_35 : decode cX8_isFor 35 = .ok (.iadd, 1) := by decide +kernel
theorem dX8_isFor_36 : decode cX8_isFor 36 = .ok (.iaload, 1) := by decide +kernel
theorem dX8_isFor_37 : decode cX8_isFor 37 = .ok (.iload_n 3, 1) := by decide +kernel
theorem dX8_isFor_38 : decode cX8_isFor 38 = .ok (.if_icmp .gt 18, 3) := by decide +kernel
theorem dX8_isFor_41 : decode cX8_isFor 41 = .ok (.aload_n 0, 1) := by decide +kernel
theorem dX8_isFor_42 : decode cX8_isFor 42 = .ok (.getfield 63, 3) := by decide +kernel
theorem dX8_isFor_45 : decode cX8_isFor 45 = .ok (.bipush 12, 2) := by decide +kernel
theorem dX8_isFor_47 : decode cX8_isFor 47 = .ok (.iload_n 1, 1) := by decide +kernel
theorem dX8_isFor_48 : decode cX8_isFor 48 = .ok (.imul, 1) := by decide +kernel
theorem dX8_isFor_49 : decode cX8_isFor 49 = .ok (.iload 5, 2) := by decide +kernel
theorem dX8_isFor_51 : decode cX8_isFor 51 = .ok (.iadd, 1) := by decide +kernel
theorem dX8_isFor_52 : decode cX8_isFor 52 = .ok (.iaload, 1) := by decide +kernel
theorem dX8_isFor_53 : decode cX8_isFor 53 = .ok (.goto 5, 3) := by decide +kernel
theorem dX8_isFor_56 : decode cX8_isFor 56 = .ok (.iload 4, 2) := by decide +kernel
theorem dX8_isFor_58 : decode cX8_isFor 58 = .ok (.istore 4, 2) := by decide +kernel
theorem dX8_isFor_60 : decode cX8_isFor 60 = .ok (.iinc 5 1, 3) := by decide +kernel
theorem dX8_isFor_63 : decode cX8_isFor 63 = .ok (.goto (-49), 3) := by decide +kernel
theorem dX8_isFor_66 : decode cX8_isFor 66 = .ok (.iload_n 2, 1) := by decide +kernel
theorem dX8_isFor_67 : decode cX8_isFor 67 = .ok (.iload 4, 2) := by decide +kernel
theorem dX8_isFor_69 : decode cX8_isFor 69 = .ok (.if_icmp .lt 7, 3) := by decide +kernel
theorem dX8_isFor_72 : decode cX8_isFor 72 = .ok (.iconst 1, 1) := by decide +kernel
theorem dX8_isFor_73 : decode cX8_isFor 73 = .ok (.goto 4, 3) := by decide +kernel
theorem dX8_isFor_76 : decode cX8_isFor 76 = .ok (.iconst 0, 1) := by decide +kernel
theorem dX8_isFor_77 : decode cX8_isFor 77 = .ok (.ireturn, 1) := by decide +kernel
set_option maxHeartbeats 4000000 in
set_option maxRecDepth 100000 in
theorem m_isFor (l : Launch) (D : va_G) (k : Nat → ClassId) (st : Nat → Nat) (lo : Nat) (a : Nat → Nat) (tx : Nat) (t0 : Nat) (we : Nat) (rd : Nat) (ru : Nat) (rw : Nat) (ca : Nat) (fp : Int32) (wd : Int64) (nu : Int32) (na : Int32) (ts : Int32) (df : Int32) (db : Int32) (sd : Int32) (bm : Nat → Nat) (fbarSeen : Nat → Int32) (fbarFrom : Nat → Int32) (kr : Nat) (p1 : Int32) (p2 : Int32) (hbm : ∀ j, bm j ≤ 12) (hk : kr < 4) : CRi l D k st lo yX8_isFor cX8_isFor 6 (some .boolean) ({ frames := 0, cells := 0, slots := 0, locals := 0 }) [.ref (a 0), .int (nI kr), .int p1, .int p2] [((a 0), .inr (8, [.ref (a 1), .ref (a 2), .ref (a 3), .ref (a 4), .ref (a 5), .int (nI tx), .int fp, .int (nI t0), .long wd, .int (nI we), .int nu, .int na, .int (nI rd), .ref (a 14), .ref (a 15), .ref (a 16), .int ts, .ref (a 18), .ref (a 19), .ref (a 20), .ref (a 21), .ref (a 22), .ref (a 23), .int (nI ru), .ref (a 25), .ref (a 26), .ref (a 27), .ref (a 28), .ref (a 29), .ref (a 30), .int (nI rw), .ref (a 32), .ref (a 33), .ref (a 34), .int (nI ca), .ref (a 36), .ref (a 37), .int df, .int db, .ref (a 40), .ref (a 41), .int sd, .ref (a 43), .ref (a 44)])), ((a 25), .inl (k 1, 4, .inl (nF bm))), ((a 26), .inl (k 1, 48, .inl fbarSeen)), ((a 27), .inl (k 1, 48, .inl fbarFrom))] (fun r => r = 1 ∨ r = 0) := by
  intro sz
  refine Met.ofW (cc := cX8_isFor) (maxL := 6) (ret := (some .boolean)) (by decide) rfl ?_
  intro p e s m args below meth c s₁ B hml hv
  obtain ⟨rfl, hsz, hlo, hP, hK, hDL, hZ⟩ := hv
  have hx := B.exec
  have hb := B.bytes
  have hr := B.returns
  have hts := WS_ts B.pre
  have hown : s.vm.findClass RX8 = some m.cls := findClass_of_methodNamed B.named
  have hlocks := B.notSynchronized
  subst hsz
  have hA : ∀ q : Nat, s.heap.size ≤ q → (fun q : Nat => s.heap.size ≤ q) q := fun _ h => h
  have hAlo : ∀ q : Nat, (fun q : Nat => s.heap.size ≤ q) q → lo ≤ q := fun q h => Nat.le_trans hlo h
  have hS : va_S (fun q : Nat => s.heap.size ≤ q) s.heap s.heap [] := va_S.rf
  have hl := lv_entry ([.ref (a 0), .int (nI kr), .int p1, .int p2]) (n := 6) (Nat.le_of_ble_eq_true rfl)
  rw [lg_entry_eq]
  generalize (lg_sl ([.ref (a 0), .int (nI kr), .int p1, .int p2]) ++ List.replicate (6 - (lg_sl ([.ref (a 0), .int (nI kr), .int p1, .int p2])).length) Slot.unset).toArray = ls at hl ⊢
  have hl : lv_has ls 6 [(0, .ref (a 0)), (1, .int (nI kr)), (2, .int p1), (3, .int p2)] := hl
  have hb_9 := hbm kr
  refine lv_aload_n hx hb dX8_isFor_0 rfl (lv_at hl 0 rfl) ?_
  refine va_get (D := D) (ci := 8) (v := .ref (a 27)) (C := RX8) (T := TX8) (N := 44) hx hb hts inX8 hown hK hP 0 rfl rfl 26 (by decide) (hts _ tw_999) (fun _ h9 => h9) rfl dX8_isFor_1 ?_
  refine lv_bipush (v := 12) hx hb dX8_isFor_4 (by decide) ?_
  refine lv_iload_n hx hb dX8_isFor_6 rfl (lv_at hl 1 rfl) ?_
  refine lv_imul hx hb dX8_isFor_7 ?_
  refine lv_ti (y := (nI (12 * kr))) (pk_mul 12 kr) ?_
  refine va_iald hx hb hK hP 3 1 rfl rfl (vp_in_nI (by omega) (by decide)) dX8_isFor_8 ?_
  refine lv_ti (y := (fbarFrom (12 * kr))) (by rw [nI_clamp (by omega)]) ?_
  refine lv_istore (lv' := [(4, .int (fbarFrom (12 * kr))), (0, .ref (a 0)), (1, .int (nI kr)), (2, .int p1), (3, .int p2)]) hx hb dX8_isFor_9 hl (by decide) rfl (fun ls hl => ?_)
  refine lv_iconst (v := 1) hx hb dX8_isFor_11 (by decide) ?_
  refine lv_istore (lv' := [(5, .int 1), (4, .int (fbarFrom (12 * kr))), (0, .ref (a 0)), (1, .int (nI kr)), (2, .int p1), (3, .int p2)]) hx hb dX8_isFor_12 hl (by decide) rfl (fun ls hl => ?_)
  refine W_loop (σ := Nat × Int32) (fun (n_ : Nat) (x_ : Nat × Int32) (H : Heap) (locs : List Loc) (ls : Array Slot) => match x_ with | (kk_1, fr_1) => n_ = 13 - kk_1 ∧ (kk_1 ≤ 13) ∧ va_P D classes [((a 0), .inr (8, [.ref (a 1), .ref (a 2), .ref (a 3), .ref (a 4), .ref (a 5), .int (nI tx), .int fp, .int (nI t0), .long wd, .int (nI we), .int nu, .int na, .int (nI rd), .ref (a 14), .ref (a 15), .ref (a 16), .int ts, .ref (a 18), .ref (a 19), .ref (a 20), .ref (a 21), .ref (a 22), .ref (a 23), .int (nI ru), .ref (a 25), .ref (a 26), .ref (a 27), .ref (a 28), .ref (a 29), .ref (a 30), .int (nI rw), .ref (a 32), .ref (a 33), .ref (a 34), .int (nI ca), .ref (a 36), .ref (a 37), .int df, .int db, .ref (a 40), .ref (a 41), .int sd, .ref (a 43), .ref (a 44)])), ((a 25), .inl (k 1, 4, .inl (nF bm))), ((a 26), .inl (k 1, 48, .inl fbarSeen)), ((a 27), .inl (k 1, 48, .inl fbarFrom))] H ∧ va_S (fun q : Nat => s.heap.size ≤ q) s.heap H locs ∧ lv_has ls 6 [(5, .int (nI kk_1)), (4, .int fr_1), (0, .ref (a 0)), (1, .int (nI kr)), (2, .int p1), (3, .int p2)]) (fun n_1 x_1 H locs ls hI ih_1 => ?_) _ (1, (fbarFrom (12 * kr))) ⟨rfl, (by omega), hP, hS, (lv_sub hl [0, 1, 2, 3, 4, 5] rfl)⟩
  obtain ⟨kk_1, fr_1⟩ := x_1
  obtain ⟨hm_1, hv_1, hP, hS, hl⟩ := hI
  subst hm_1
  refine lv_iload hx hb dX8_isFor_14 (lv_at hl 0 rfl) ?_
  refine lv_aload_n hx hb dX8_isFor_16 rfl (lv_at hl 2 rfl) ?_
  refine va_get (D := D) (ci := 8) (v := .ref (a 25)) (C := RX8) (T := TX8) (N := 44) hx hb hts inX8 hown hK hP 0 rfl rfl 24 (by decide) (hts _ tw_997) (fun _ h9 => h9) rfl dX8_isFor_17 ?_
  refine lv_iload_n hx hb dX8_isFor_20 rfl (lv_at hl 3 rfl) ?_
  refine va_iald hx hb hK hP 1 1 rfl rfl (vp_in_nI (by omega) (by decide)) dX8_isFor_21 ?_
  refine lv_ti (y := (nI (bm kr))) (by rw [nI_clamp (by omega)]; rfl) ?_
  refine lv_icmp_ge (tgt := 66) hx hb dX8_isFor_22 (by decide) (fun c_2 => ?_) (fun c_2 => ?_)
  · have c_2 := (nI_leI (a := (bm kr)) (b := kk_1) (by omega) (by omega)).mp c_2
    refine lv_iload_n hx hb dX8_isFor_66 rfl (lv_at hl 4 rfl) ?_
    refine lv_iload hx hb dX8_isFor_67 (lv_at hl 1 rfl) ?_
    refine lv_icmp_lt (tgt := 76) hx hb dX8_isFor_69 (by decide) (fun c_3 => ?_) (fun c_3 => ?_)
    · refine lv_iconst (v := 0) hx hb dX8_isFor_76 (by decide) ?_
      exact W.zret (v := 0) (ty := .boolean) hx hb hr rfl (fun t ht hW => ⟨⟨0, (), rfl, .inr rfl, trivial⟩, hS.F ht⟩) hS.2.2 dX8_isFor_77
    · refine lv_iconst (v := 1) hx hb dX8_isFor_72 (by decide) ?_
      refine lv_goto (tgt := 77) hx hb dX8_isFor_73 (by decide) ?_
      exact W.zret (v := 1) (ty := .boolean) hx hb hr rfl (fun t ht hW => ⟨⟨1, (), rfl, .inl rfl, trivial⟩, hS.F ht⟩) hS.2.2 dX8_isFor_77
  · have c_2 : ¬ ((bm kr) ≤ kk_1) := fun h => c_2 ((nI_leI (a := (bm kr)) (b := kk_1) (by omega) (by omega)).mpr h)
    refine lv_aload_n hx hb dX8_isFor_25 rfl (lv_at hl 2 rfl) ?_
    refine va_get (D := D) (ci := 8) (v := .ref (a 26)) (C := RX8) (T := TX8) (N := 44) hx hb hts inX8 hown hK hP 0 rfl rfl 25 (by decide) (hts _ tw_998) (fun _ h9 => h9) rfl dX8_isFor_26 ?_
    refine lv_bipush (v := 12) hx hb dX8_isFor_29 (by decide) ?_
    refine lv_iload_n hx hb dX8_isFor_31 rfl (lv_at hl 3 rfl) ?_
    refine lv_imul hx hb dX8_isFor_32 ?_
    refine lv_ti (y := (nI (12 * kr))) (pk_mul 12 kr) ?_
    refine lv_iload hx hb dX8_isFor_33 (lv_at hl 0 rfl) ?_
    refine lv_iadd hx hb dX8_isFor_35 ?_
    refine lv_ti (y := (nI (12 * kr + kk_1))) (nI_add (12 * kr) kk_1) ?_
    refine va_iald hx hb hK hP 2 1 rfl rfl (vp_in_nI (by omega) (by decide)) dX8_isFor_36 ?_
    refine lv_ti (y := (fbarSeen (12 * kr + kk_1))) (by rw [nI_clamp (by omega)]) ?_
    refine lv_iload_n hx hb dX8_isFor_37 rfl (lv_at hl 5 rfl) ?_
    refine lv_icmp_gt (tgt := 56) hx hb dX8_isFor_38 (by decide) (fun c_4 => ?_) (fun c_4 => ?_)
    · refine lv_iload hx hb dX8_isFor_56 (lv_at hl 1 rfl) ?_
      refine lv_istore (lv' := [(4, .int fr_1), (5, .int (nI kk_1)), (0, .ref (a 0)), (1, .int (nI kr)), (2, .int p1), (3, .int p2)]) hx hb dX8_isFor_58 hl (by decide) rfl (fun ls hl => ?_)
      refine lv_iinc (v := (nI (kk_1 + 1))) (lv' := [(5, .int (nI (kk_1 + 1))), (4, .int fr_1), (0, .ref (a 0)), (1, .int (nI kr)), (2, .int p1), (3, .int p2)]) hx hb dX8_isFor_60 hl (k := 1) rfl (nI_add kk_1 1) (by decide) rfl (fun ls hl => ?_)
      refine lv_goto (tgt := 14) hx hb dX8_isFor_63 (by decide) ?_
      exact ih_1 _ (kk_1 + 1, fr_1) _ _ _ (by omega) ⟨rfl, (by omega), hP, hS, (lv_sub hl [0, 1, 2, 3, 4, 5] rfl)⟩
    · refine lv_aload_n hx hb dX8_isFor_41 rfl (lv_at hl 2 rfl) ?_
      refine va_get (D := D) (ci := 8) (v := .ref (a 27)) (C := RX8) (T := TX8) (N := 44) hx hb hts inX8 hown hK hP 0 rfl rfl 26 (by decide) (hts _ tw_999) (fun _ h9 => h9) rfl dX8_isFor_42 ?_
      refine lv_bipush (v := 12) hx hb dX8_isFor_45 (by decide) ?_
      refine lv_iload_n hx hb dX8_isFor_47 rfl (lv_at hl 3 rfl) ?_
      refine lv_imul hx hb dX8_isFor_48 ?_
      refine lv_ti (y := (nI (12 * kr))) (pk_mul 12 kr) ?_
      refine lv_iload hx hb dX8_isFor_49 (lv_at hl 0 rfl) ?_
      refine lv_iadd hx hb dX8_isFor_51 ?_
      refine lv_ti (y := (nI (12 * kr + kk_1))) (nI_add (12 * kr) kk_1) ?_
      refine va_iald hx hb hK hP 3 1 rfl rfl (vp_in_nI (by omega) (by decide)) dX8_isFor_52 ?_
      refine lv_ti (y := (fbarFrom (12 * kr + kk_1))) (by rw [nI_clamp (by omega)]) ?_
      refine lv_goto (tgt := 58) hx hb dX8_isFor_53 (by decide) ?_
      refine lv_istore (lv' := [(4, .int (fbarFrom (12 * kr + kk_1))), (5, .int (nI kk_1)), (0, .ref (a 0)), (1, .int (nI kr)), (2, .int p1), (3, .int p2)]) hx hb dX8_isFor_58 hl (by decide) rfl (fun ls hl => ?_)
      refine lv_iinc (v := (nI (kk_1 + 1))) (lv' := [(5, .int (nI (kk_1 + 1))), (4, .int (fbarFrom (12 * kr + kk_1))), (0, .ref (a 0)), (1, .int (nI kr)), (2, .int p1), (3, .int p2)]) hx hb dX8_isFor_60 hl (k := 1) rfl (nI_add kk_1 1) (by decide) rfl (fun ls hl => ?_)
      refine lv_goto (tgt := 14) hx hb dX8_isFor_63 (by decide) ?_
      exact ih_1 _ (kk_1 + 1, (fbarFrom (12 * kr + kk_1))) _ _ _ (by omega) ⟨rfl, (by omega), hP, hS, (lv_sub hl [0, 1, 2, 3, 4, 5] rfl)⟩


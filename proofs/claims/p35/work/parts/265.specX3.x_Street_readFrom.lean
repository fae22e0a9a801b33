theorem dX5_readFrom_0 : decode cX5_readFrom 0 = .ok (.getstatic 40, 3) := by decide +kernel
theorem dX5_readFrom_3 : decode cX5_readFrom 3 = .ok (.iconst 0, 1) := by decide +kernel
theorem dX5_readFrom_4 : decode cX5_readFrom 4 = .ok (.aload_n 0, 1) := by decide +kernel
theorem dX5_readFrom_5 : decode cX5_readFrom 5 = .ok (.getfield 9, 3) := by decide +kernel
theorem dX5_readFrom_8 : decode cX5_readFrom 8 = .ok (.iconst 0, 1) := by decide +kernel
theorem dX5_readFrom_9 : decode cX5_readFrom 9 = .ok (.bipush 10, 2) := by decide +kernel
theorem dX5_readFrom_11 : decode cX5_readFrom 11 = .ok (.invokestatic 24, 3) := by decide +kernel
theorem dX5_readFrom_14 : decode cX5_readFrom 14 = .ok (.iconst 0, 1) := by decide +kernel
theorem dX5_readFrom_15 : decode cX5_readFrom 15 = .ok (.istore_n 2, 1) := by decide +kernel
theorem dX5_readFrom_16 : decode cX5_readFrom 16 = .ok (.iconst 0, 1) := by decide +kernel
theorem dX5_readFrom_17 : decode cX5_readFrom 17 = .ok (.istore_n 3, 1) := by decide +kernel
theorem dX5_readFrom_18 : decode cX5_readFrom 18 = .ok (.iload_n 3, 1) := by decide +kernel
theorem dX5_readFrom_19 : decode cX5_readFrom 19 = .ok (.sipush 240, 3) := by decide +kernel
theorem dX5_readFrom_22 : decode cX5_readFrom 22 = .ok (.if_icmp .ge 97, 3) := by decide +kernel
theorem dX5_readFrom_25 : decode cX5_readFrom 25 = .ok (.aload_n 1, 1) := by decide +kernel
theorem dX5_readFrom_26 : decode cX5_readFrom 26 = .ok (.invokevirtual 43, 3) := by decide +kernel
theorem dX5_readFrom_29 : decode cX5_readFrom 29 = .ok (.ifCond .ne 90, 3) := by decide +kernel
theorem dX5_readFrom_32 : decode cX5_readFrom 32 = .ok (.aload_n 1, 1) := by decide +kernel
theorem dX5_readFrom_33 : decode cX5_readFrom 33 = .ok (.invokevirtual 49, 3) := by decide +kernel
theorem dX5_readFrom_36 : decode cX5_readFrom 36 = .ok (.ifCond .ne 83, 3) := by decide +kernel
theorem dX5_readFrom_39 : decode cX5_readFrom 39 = .ok (.aload_n 1, 1) := by decide +kernel
theorem dX5_readFrom_40 : decode cX5_readFrom 40 = .ok (.getfield 52, 3) := by decide +kernel
theorem dX5_readFrom_43 : decode cX5_readFrom 43 = .ok (.istore 4, 2) := by decide +kernel
theorem dX5_readFrom_45 : decode cX5_readFrom 45 = .ok (.aload_n 1, 1) := by decide +kernel
theorem dX5_readFrom_46 : decode cX5_readFrom 46 = .ok (.invokestatic 56, 3) := by decide +kernel
theorem dX5_readFrom_49 : decode cX5_readFrom 49 = .ok (.istore 5, 2) := by decide +kernel
theorem dX5_readFrom_51 : decode cX5_readFrom 51 = .ok (.iload 5, 2) := by decide +kernel
theorem dX5_readFrom_53 : decode cX5_readFrom 53 = .ok (.iconst (-1), 1) := by decide +kernel
theorem dX5_readFrom_54 : decode cX5_readFrom 54 = .ok (.if_icmp .ne 13, 3) := by decide +kernel
theorem dX5_readFrom_57 : decode cX5_readFrom 57 = .ok (.aload_n 1, 1) := by decide +kernel
theorem dX5_readFrom_58 : decode cX5_readFrom 58 = .ok (.iconst 1, 1) := by decide +kernel
theorem dX5_readFrom_59 : decode cX5_readFrom 59 = .ok (.iload 4, 2) := by decide +kernel
theorem dX5_readFrom_61 : decode cX5_readFrom 61 = .ok (.invokevirtual 60, 3) := by decide +kernel
theorem dX5_readFrom_64 : decode cX5_readFrom 64 = .ok (.goto 49, 3) := by decide +kernel
theorem dX5_readFrom_67 : decode cX5_readFrom 67 = .ok (.iload_n 2, 1) := by decide +kernel
theorem dX5_readFrom_68 : decode cX5_readFrom 68 = .ok (.iload 5, 2) := by decide +kernel
theorem dX5_readFrom_70 : decode cX5_readFrom 70 = .ok (.ishr, 1) := by decide +kernel
theorem dX5_readFrom_71 : decode cX5_readFrom 71 = .ok (.iconst 1, 1) := by decide +kernel
theorem dX5_readFrom_72 : decode cX5_readFrom 72 = .ok (.iand, 1) := by decide +kernel
theorem dX5_readFrom_73 : decode cX5_readFrom 73 = .ok (.ifCond .eq 13, 3) := by decide +kernel
theorem dX5_readFrom_76 : decode cX5_readFrom 76 = .ok (.aload_n 1, 1) := by decide +kernel
theorem dX5_readFrom_77 : decode cX5_readFrom 77 = .ok (.iconst 3, 1) := by decide +kernel
theorem dX5_readFrom_78 : decode cX5_readFrom 78 = .ok (.iload 4, 2) := by decide +kernel
theorem dX5_readFrom_80 : decode cX5_readFrom 80 = .ok (.invokevirtual 60, 3) := by decide +kernel
theorem dX5_readFrom_83 : decode cX5_readFrom 83 = .ok (.goto 30, 3) := by decide +kernel
theorem dX5_readFrom_86 : decode cX5_readFrom 86 = .ok (.iload 5, 2) := by decide +kernel
theorem dX5_readFrom_88 : decode cX5_readFrom 88 = .ok (.ifCond .ne 11, 3) := by decide +kernel
theorem dX5_readFrom_91 : decode cX5_readFrom 91 = .ok (.aload_n 0, 1) := by decide +kernel
theorem dX5_readFrom_92 : decode cX5_readFrom 92 = .ok (.aload_n 1, 1) := by decide +kernel
theorem dX5_readFrom_93 : decode cX5_readFrom 93 = .ok (.invokevirtual 64, 3) := by decide +kernel
theorem dX5_readFrom_96 : decode cX5_readFrom 96 = .ok (.goto 17, 3) := by decide +kernel
theorem dX5_readFrom_99 : decode cX5_readFrom 99 = .ok (.aload_n 0, 1) := by decide +kernel
theorem dX5_readFrom_100 : decode cX5_readFrom 100 = .ok (.aload_n 1, 1) := by decide +kernel
theorem dX5_readFrom_101 : decode cX5_readFrom 101 = .ok (.iload 5, 2) := by decide +kernel
theorem dX5_readFrom_103 : decode cX5_readFrom 103 = .ok (.invokevirtual 68, 3) := by decide +kernel
theorem dX5_readFrom_106 : decode cX5_readFrom 106 = .ok (.iload_n 2, 1) := by decide +kernel
theorem dX5_readFrom_107 : decode cX5_readFrom 107 = .ok (.iconst 1, 1) := by decide +kernel
theorem dX5_readFrom_108 : decode cX5_readFrom 108 = .ok (.iload 5, 2) := by decide +kernel
theorem dX5_readFrom_110 : decode cX5_readFrom 110 = .ok (.ishl, 1) := by decide +kernel
theorem dX5_readFrom_111 : decode cX5_readFrom 111 = .ok (.ior, 1) := by decide +kernel
theorem dX5_readFrom_112 : decode cX5_readFrom 112 = .ok (.istore_n 2, 1) := by decide +kernel
theorem dX5_readFrom_113 : decode cX5_readFrom 113 = .ok (.iinc 3 1, 3) := by decide +kernel
theorem dX5_readFrom_116 : decode cX5_readFrom 116 = .ok (.goto (-98), 3) := by decide +kernel
theorem dX5_readFrom_119 : decode cX5_readFrom 119 = .ok (.aload_n 1, 1) := by decide +kernel
theorem dX5_readFrom_120 : decode cX5_readFrom 120 = .ok (.invokevirtual 43, 3) := by decide +kernel
theorem dX5_readFrom_123 : decode cX5_readFrom 123 = .ok (.ifCond .ne 19, 3) := by decide +kernel
theorem dX5_readFrom_126 : decode cX5_readFrom 126 = .ok (.aload_n 0, 1) := by decide +kernel
theorem dX5_readFrom_127 : decode cX5_readFrom 127 = .ok (.invokevirtual 72, 3) := by decide +kernel
theorem dX5_readFrom_130 : decode cX5_readFrom 130 = .ok (.ifCond .ne 12, 3) := by decide +kernel
theorem dX5_readFrom_133 : decode cX5_readFrom 133 = .ok (.aload_n 1, 1) := by decide +kernel
theorem dX5_readFrom_134 : decode cX5_readFrom 134 = .ok (.iconst 1, 1) := by decide +kernel
theorem dX5_readFrom_135 : decode cX5_readFrom 135 = .ok (.aload_n 1, 1) := by decide +kernel
theorem dX5_readFrom_136 : decode cX5_readFrom 136 = .ok (.getfield 76, 3) := by decide +kernel
theorem dX5_readFrom_139 : decode cX5_readFrom 139 = .ok (.invokevirtual 60, 3) := by decide +kernel
theorem dX5_readFrom_142 : decode cX5_readFrom 142 = .ok (.return_, 1) := by decide +kernel
set_option maxHeartbeats 4000000 in
set_option maxRecDepth 100000 in
theorem x_Street_readFrom (l : Launch) (D : va_G) (k : Nat → ClassId) (st : Nat → Nat) (lo : Nat) (h0 : Nat) (h1 : Nat) (h2 : Nat) (h3 : Nat) (h4 : Nat) (n : Nat) (see : Nat) (tm : Nat) (g : Nat → Int32) (ff : Nat → Int32) (fp : Nat → Int32) (x0 : Nat) (x1 : Nat) (tz : Nat) (ta : Nat) (na : Int32) (fn : Int32) (fb : Int32) (fx : Nat → Int32) (ht : ta ≤ tz) (hz : tz ≤ 240) : CWv l D k st lo yX5_readFrom cX5_readFrom 6 none ({ frames := 7, cells := 0, slots := 0, locals := 155 }) 0 0 [.ref h0, .ref x0] [(h0, .inr (5, [.ref h1, .ref h2, .ref h3, .ref h4])), (h1, .inl (k 1, 10, .inl (vv n see tm g))), (h2, .inl (k 1, 24, .inl ff)), (h3, .inl (k 1, 24, .inl fp)), (x0, .inr (6, [.ref x1, .int (nI tz), .int (nI ta), .int na, .int fn, .int fb])), (x1, .inl (k 0, 240, .inl fx))] (fun (u : Nat × Nat × Nat × (Nat → Int32) × (Nat → Int32) × (Nat → Int32) × Nat × Int32 × Int32 × Int32) => match u with | (n_, see_, tm_, g_, ff_, fp_, ta_, na_, fn_, fb_) => n_ ≤ 24 ∧ see_ ≤ 2 ∧ tm_ ≤ 3 ∧ ta_ ≤ tz) (fun (u : Nat × Nat × Nat × (Nat → Int32) × (Nat → Int32) × (Nat → Int32) × Nat × Int32 × Int32 × Int32) => match u with | (n_, see_, tm_, g_, ff_, fp_, ta_, na_, fn_, fb_) => [(h0, .inr (5, [.ref h1, .ref h2, .ref h3, .ref h4])), (h1, .inl (k 1, 10, .inl (vv n_ see_ tm_ g_))), (h2, .inl (k 1, 24, .inl ff_)), (h3, .inl (k 1, 24, .inl fp_)), (x0, .inr (6, [.ref x1, .int (nI tz), .int (nI ta_), .int na_, .int fn_, .int fb_])), (x1, .inl (k 0, 240, .inl fx))]) := by
  intro sz
  refine Met.ofW (cc := cX5_readFrom) (maxL := 6) (ret := none) (by decide) rfl ?_
  intro p e s m args below meth c s₁ B hml hv
  obtain ⟨rfl, hsz, hlo, hP, hK, hDL, hZ⟩ := hv
  have hx := B.exec
  have hb := B.bytes
  have hr := B.returns
  have hts := WS_ts B.pre
  have hown : s.vm.findClass RX5 = some m.cls := findClass_of_methodNamed B.named
  have hlocks := B.notSynchronized
  subst hsz
  have hD := hDL.self (sz := s.heap.size)
  have hAlo := A_lo hDL hlo
  generalize hAe : va_A [(h0, .inr (5, [.ref h1, .ref h2, .ref h3, .ref h4])), (h1, .inl (k 1, 10, .inl (vv n see tm g))), (h2, .inl (k 1, 24, .inl ff)), (h3, .inl (k 1, 24, .inl fp)), (x0, .inr (6, [.ref x1, .int (nI tz), .int (nI ta), .int na, .int fn, .int fb])), (x1, .inl (k 0, 240, .inl fx))] s.heap.size = A at hD hAlo ⊢
  have hA : ∀ q : Nat, s.heap.size ≤ q → A q := fun q h => by rw [← hAe]; exact Or.inr h
  have hS : va_S A s.heap s.heap [] := va_S.rf
  have hl := lv_entry ([.ref h0, .ref x0]) (n := 6) (Nat.le_of_ble_eq_true rfl)
  rw [lg_entry_eq]
  generalize (lg_sl ([.ref h0, .ref x0]) ++ List.replicate (6 - (lg_sl ([.ref h0, .ref x0])).length) Slot.unset).toArray = ls at hl ⊢
  have hl : lv_has ls 6 [(0, .ref h0), (1, .ref x0)] := hl
  refine va_getsN (A := A) hx hb (hZ.1.narrow hAlo) hS hown ((hZ.2.2.2.2.2.2.2.2.1.2.1 (RX5, 40, "LastPlace", "NOT_TOLD", "[I", RX7) (List.mem_of_getElem? (i := 0) rfl)).use rfl) (fun _ h9 => h9) dX5_readFrom_0 ?_
  refine lv_iconst (v := 0) hx hb dX5_readFrom_3 (by decide) ?_
  refine lv_aload_n hx hb dX5_readFrom_4 rfl (lv_at hl 0 rfl) ?_
  refine va_get (D := D) (ci := 5) (v := .ref h1) (C := RX5) (T := TX5) (N := 4) hx hb hts inX5 hown hK hP 0 rfl rfl 0 (by decide) (hts _ tw_146) (fun _ h9 => h9) rfl dX5_readFrom_5 ?_
  refine lv_iconst (v := 0) hx hb dX5_readFrom_8 (by decide) ?_
  refine lv_bipush (v := 10) hx hb dX5_readFrom_9 (by decide) ?_
  refine cpT (A := A) hx hb (by rw [hml]; exact hl.1.symm) hown (hts _ tw_364) (hts _ tw_366) (hts _ tw_365) (hts _ tw_88) hK hP hD hS (hZ.2.1.narrow hAlo) 1 1 rfl rfl (by decide) (by decide) (by decide) (by decide) (by decide) (Nat.le_of_ble_eq_true rfl) (Nat.le_of_ble_eq_true rfl) dX5_readFrom_11 (fun H locs hP hD hS => ?_)
  replace hP : va_P D classes [(h0, .inr (5, [.ref h1, .ref h2, .ref h3, .ref h4])), (h1, .inl (k 1, 10, .inl (va_cpy zNT (vv n see tm g) 0 0 10))), (h2, .inl (k 1, 24, .inl ff)), (h3, .inl (k 1, 24, .inl fp)), (x0, .inr (6, [.ref x1, .int (nI tz), .int (nI ta), .int na, .int fn, .int fb])), (x1, .inl (k 0, 240, .inl fx))] H := hP
  replace hD : va_D A [(h0, .inr (5, [.ref h1, .ref h2, .ref h3, .ref h4])), (h1, .inl (k 1, 10, .inl (va_cpy zNT (vv n see tm g) 0 0 10))), (h2, .inl (k 1, 24, .inl ff)), (h3, .inl (k 1, 24, .inl fp)), (x0, .inr (6, [.ref x1, .int (nI tz), .int (nI ta), .int na, .int fn, .int fb])), (x1, .inl (k 0, 240, .inl fx))] := hD
  rw [show va_cpy zNT (vv n see tm g) 0 0 10 = vv 0 1 0 (va_cpy zNT g 0 0 10) from vv_cpN _ _ _ _] at hP hD
  generalize va_cpy zNT g 0 0 10 = gg_1 at hP hD
  replace hP : va_P D classes [(h0, .inr (5, [.ref h1, .ref h2, .ref h3, .ref h4])), (h1, .inl (k 1, 10, .inl (vv 0 1 0 gg_1))), (h2, .inl (k 1, 24, .inl ff)), (h3, .inl (k 1, 24, .inl fp)), (x0, .inr (6, [.ref x1, .int (nI tz), .int (nI ta), .int na, .int fn, .int fb])), (x1, .inl (k 0, 240, .inl fx))] H := hP
  replace hD : va_D A [(h0, .inr (5, [.ref h1, .ref h2, .ref h3, .ref h4])), (h1, .inl (k 1, 10, .inl (vv 0 1 0 gg_1))), (h2, .inl (k 1, 24, .inl ff)), (h3, .inl (k 1, 24, .inl fp)), (x0, .inr (6, [.ref x1, .int (nI tz), .int (nI ta), .int na, .int fn, .int fb])), (x1, .inl (k 0, 240, .inl fx))] := hD
  refine lv_iconst (v := 0) hx hb dX5_readFrom_14 (by decide) ?_
  refine lv_istore_n (lv' := [(2, .int 0), (0, .ref h0), (1, .ref x0)]) hx hb dX5_readFrom_15 rfl hl (by decide) rfl (fun ls hl => ?_)
  refine lv_iconst (v := 0) hx hb dX5_readFrom_16 (by decide) ?_
  refine lv_istore_n (lv' := [(3, .int 0), (2, .int 0), (0, .ref h0), (1, .ref x0)]) hx hb dX5_readFrom_17 rfl hl (by decide) rfl (fun ls hl => ?_)
  refine W_loop (σ := Nat × Int32 × Nat × Nat × Nat × (Nat → Int32) × (Nat → Int32) × (Nat → Int32) × Nat × Int32 × Int32 × Int32) (fun (n_ : Nat) (x_ : Nat × Int32 × Nat × Nat × Nat × (Nat → Int32) × (Nat → Int32) × (Nat → Int32) × Nat × Int32 × Int32 × Int32) (H : Heap) (locs : List Loc) (ls : Array Slot) => match x_ with | (kk_3, to2_3, n2_3, see2_3, tm2_3, g2_3, ff2_3, fp2_3, ta2_3, na2_3, fn2_3, fb2_3) => n_ = 240 - kk_3 ∧ (kk_3 ≤ 240 ∧ n2_3 ≤ 24 ∧ see2_3 ≤ 2 ∧ tm2_3 ≤ 3 ∧ ta2_3 ≤ tz) ∧ va_P D classes [(h0, .inr (5, [.ref h1, .ref h2, .ref h3, .ref h4])), (h1, .inl (k 1, 10, .inl (vv n2_3 see2_3 tm2_3 g2_3))), (h2, .inl (k 1, 24, .inl ff2_3)), (h3, .inl (k 1, 24, .inl fp2_3)), (x0, .inr (6, [.ref x1, .int (nI tz), .int (nI ta2_3), .int na2_3, .int fn2_3, .int fb2_3])), (x1, .inl (k 0, 240, .inl fx))] H ∧ va_D A [(h0, .inr (5, [.ref h1, .ref h2, .ref h3, .ref h4])), (h1, .inl (k 1, 10, .inl (vv n2_3 see2_3 tm2_3 g2_3))), (h2, .inl (k 1, 24, .inl ff2_3)), (h3, .inl (k 1, 24, .inl fp2_3)), (x0, .inr (6, [.ref x1, .int (nI tz), .int (nI ta2_3), .int na2_3, .int fn2_3, .int fb2_3])), (x1, .inl (k 0, 240, .inl fx))] ∧ va_S A s.heap H locs ∧ lv_has ls 6 [(3, .int (nI kk_3)), (2, .int to2_3), (0, .ref h0), (1, .ref x0)]) (fun n_3 x_3 H locs ls hI ih_3 => ?_) _ (0, 0, 0, 1, 0, gg_1, ff, fp, ta, na, fn, fb) ⟨rfl, ⟨by omega, by omega, by omega, by omega, by omega⟩, hP, hD, hS, (lv_sub hl [0, 1, 2, 3] rfl)⟩
  obtain ⟨kk_3, to2_3, n2_3, see2_3, tm2_3, g2_3, ff2_3, fp2_3, ta2_3, na2_3, fn2_3, fb2_3⟩ := x_3
  obtain ⟨hm_3, hv_3, hP, hD, hS, hl⟩ := hI
  subst hm_3
  refine lv_iload_n hx hb dX5_readFrom_18 rfl (lv_at hl 0 rfl) ?_
  refine lv_sipush (v := 240) hx hb dX5_readFrom_19 (by decide) ?_
  refine lv_icmp_ge (tgt := 119) hx hb dX5_readFrom_22 (by decide) (fun c_4 => ?_) (fun c_4 => ?_)
  · have c_4 := (nI_leI (a := 240) (b := kk_3) (by omega) (by omega)).mp c_4
    refine lv_aload_n hx hb dX5_readFrom_119 rfl (lv_at hl 3 rfl) ?_
    refine ro_i (D := D) (va_runV (As := []) (rest := []) ⟨hx, hb, hml, hown, hts⟩ ((x_failed l D k st lo x0 x1 tz ta2_3 na2_3 fn2_3 fb2_3) H.size) (cwV 0 hts (gV tw_367 tw_368 tw_369 tw_80 tw_370) rfl rfl rfl (by decide +kernel) ⟨Nat.le_of_ble_eq_true rfl, Nat.le_of_ble_eq_true rfl⟩) (pV hS hAlo hlo hP hK (va_Dlo hD hAlo) hZ [4] (by decide) rfl (ci := 6) (q0 := 0) rfl rfl) rfl rfl hl.1 rfl (lv_room (Nat.le_of_ble_eq_true rfl)) dX5_readFrom_120 ⟨Nat.le_of_ble_eq_true rfl, Nat.le_of_ble_eq_true rfl⟩) hS hA hP (fun r_5 H locs hw_5 hP hS => ?_)
    try dsimp only at hw_5
    rcases hw_5 with ⟨rfl, hw_5⟩ | ⟨rfl, rfl⟩
    · refine lv_if_ne (tgt := 142) hx hb dX5_readFrom_123 (by decide) (fun _ => ?_) (fun h => absurd h (by decide))
      have hP9 := hP.sub (ws' := [(h0, .inr (5, [.ref h1, .ref h2, .ref h3, .ref h4])), (h1, .inl (k 1, 10, .inl (vv n2_3 see2_3 tm2_3 g2_3))), (h2, .inl (k 1, 24, .inl ff2_3)), (h3, .inl (k 1, 24, .inl fp2_3)), (x0, .inr (6, [.ref x1, .int (nI tz), .int (nI ta2_3), .int na2_3, .int fn2_3, .int fb2_3])), (x1, .inl (k 0, 240, .inl fx))]) [0, 1, 2, 3, 4, 5] rfl
      have hD9 := hD.sub (ws' := [(h0, .inr (5, [.ref h1, .ref h2, .ref h3, .ref h4])), (h1, .inl (k 1, 10, .inl (vv n2_3 see2_3 tm2_3 g2_3))), (h2, .inl (k 1, 24, .inl ff2_3)), (h3, .inl (k 1, 24, .inl fp2_3)), (x0, .inr (6, [.ref x1, .int (nI tz), .int (nI ta2_3), .int na2_3, .int fn2_3, .int fb2_3])), (x1, .inl (k 0, 240, .inl fx))]) [0, 1, 2, 3, 4, 5] (by decide) rfl
      exact W.vret hx hb hr (fun t ht hW => ⟨⟨(n2_3, see2_3, tm2_3, g2_3, ff2_3, fp2_3, ta2_3, na2_3, fn2_3, fb2_3), rfl, ⟨by omega, by omega, by omega, by omega⟩, by rw [ht]; exact hP9, hD9⟩, hS.F ht⟩) hS.2.2 dX5_readFrom_142
    · refine lv_if_ne (tgt := 142) hx hb dX5_readFrom_123 (by decide) (fun h => absurd (by decide) h) (fun _ => ?_)
      refine lv_aload_n hx hb dX5_readFrom_126 rfl (lv_at hl 2 rfl) ?_
      refine ro_i (D := D) (va_runV (As := []) (rest := []) ⟨hx, hb, hml, hown, hts⟩ ((x_doors l D k st lo h0 h1 h2 h3 h4 n2_3 see2_3 tm2_3 g2_3) H.size) (cwV 0 hts (gV tw_477 tw_478 tw_479 tw_81 tw_480) rfl rfl rfl (by decide +kernel) ⟨Nat.le_of_ble_eq_true rfl, Nat.le_of_ble_eq_true rfl⟩) (pV hS hAlo hlo hP hK (va_Dlo hD hAlo) hZ [0, 1] (by decide) rfl (ci := 5) (q0 := 0) rfl rfl) rfl rfl hl.1 rfl (lv_room (Nat.le_of_ble_eq_true rfl)) dX5_readFrom_127 ⟨Nat.le_of_ble_eq_true rfl, Nat.le_of_ble_eq_true rfl⟩) hS hA hP (fun r_6 H locs hw_6 hP hS => ?_)
      try dsimp only at hw_6
      subst hw_6
      refine lv_if_ne (tgt := 142) hx hb dX5_readFrom_130 (by decide) (fun c_7 => ?_) (fun c_7 => ?_)
      · have c_7 : ¬ (n2_3 = 0) := fun h => c_7 ((nI_eq (a := n2_3) (b := 0) (by omega) (by omega)).mpr h)
        have hP9 := hP.sub (ws' := [(h0, .inr (5, [.ref h1, .ref h2, .ref h3, .ref h4])), (h1, .inl (k 1, 10, .inl (vv n2_3 see2_3 tm2_3 g2_3))), (h2, .inl (k 1, 24, .inl ff2_3)), (h3, .inl (k 1, 24, .inl fp2_3)), (x0, .inr (6, [.ref x1, .int (nI tz), .int (nI ta2_3), .int na2_3, .int 0, .int fb2_3])), (x1, .inl (k 0, 240, .inl fx))]) [0, 1, 2, 3, 4, 5] rfl
        have hD9 := hD.sub (ws' := [(h0, .inr (5, [.ref h1, .ref h2, .ref h3, .ref h4])), (h1, .inl (k 1, 10, .inl (vv n2_3 see2_3 tm2_3 g2_3))), (h2, .inl (k 1, 24, .inl ff2_3)), (h3, .inl (k 1, 24, .inl fp2_3)), (x0, .inr (6, [.ref x1, .int (nI tz), .int (nI ta2_3), .int na2_3, .int 0, .int fb2_3])), (x1, .inl (k 0, 240, .inl fx))]) [0, 1, 2, 3, 4, 5] (by decide) rfl
        exact W.vret hx hb hr (fun t ht hW => ⟨⟨(n2_3, see2_3, tm2_3, g2_3, ff2_3, fp2_3, ta2_3, na2_3, 0, fb2_3), rfl, ⟨by omega, by omega, by omega, by omega⟩, by rw [ht]; exact hP9, hD9⟩, hS.F ht⟩) hS.2.2 dX5_readFrom_142
      · have c_7 := (nI_eq (a := n2_3) (b := 0) (by omega) (by omega)).mp c_7
        refine lv_aload_n hx hb dX5_readFrom_133 rfl (lv_at hl 3 rfl) ?_
        refine lv_iconst (v := 1) hx hb dX5_readFrom_134 (by decide) ?_
        refine lv_aload_n hx hb dX5_readFrom_135 rfl (lv_at hl 3 rfl) ?_
        refine va_get (D := D) (ci := 6) (v := .int (nI tz)) (C := RX6) (T := TX6) (N := 6) hx hb hts inX6 hown hK hP 4 rfl rfl 1 (by decide) (hts _ tw_112) (fun _ h9 => h9) rfl dX5_readFrom_136 ?_
        refine rw_v (D := D) (wr := [(h0, .inr (5, [.ref h1, .ref h2, .ref h3, .ref h4])), (h1, .inl (k 1, 10, .inl (vv n2_3 see2_3 tm2_3 g2_3))), (h2, .inl (k 1, 24, .inl ff2_3)), (h3, .inl (k 1, 24, .inl fp2_3)), (x1, .inl (k 0, 240, .inl fx))]) (va_runV (As := [.int 1, .int (nI tz)]) (rest := []) ⟨hx, hb, hml, hown, hts⟩ ((x_fail l D k st lo x0 x1 tz ta2_3 na2_3 0 fb2_3 1 (nI tz) (by decide)) H.size) (cwV 2 hts (gV tw_455 tw_456 tw_457 tw_80 tw_458) rfl rfl rfl (by decide +kernel) ⟨Nat.le_of_ble_eq_true rfl, Nat.le_of_ble_eq_true rfl⟩) (pV hS hAlo hlo hP hK (va_Dlo hD hAlo) hZ [4] (by decide) rfl (ci := 6) (q0 := 0) rfl rfl) rfl rfl hl.1 rfl (lv_room (Nat.le_of_ble_eq_true rfl)) dX5_readFrom_139 ⟨Nat.le_of_ble_eq_true rfl, Nat.le_of_ble_eq_true rfl⟩) hS hA hP hD [4] [0, 1, 2, 3, 5] rfl rfl (by decide) (by decide) (fun u H locs hw_8 hP hD hS => ?_)
        obtain ⟨fn__8, fb__8⟩ := u
        replace hP : va_P D classes [(h0, .inr (5, [.ref h1, .ref h2, .ref h3, .ref h4])), (h1, .inl (k 1, 10, .inl (vv n2_3 see2_3 tm2_3 g2_3))), (h2, .inl (k 1, 24, .inl ff2_3)), (h3, .inl (k 1, 24, .inl fp2_3)), (x1, .inl (k 0, 240, .inl fx)), (x0, .inr (6, [.ref x1, .int (nI tz), .int (nI ta2_3), .int na2_3, .int fn__8, .int fb__8]))] H := hP
        replace hD : va_D A [(h0, .inr (5, [.ref h1, .ref h2, .ref h3, .ref h4])), (h1, .inl (k 1, 10, .inl (vv n2_3 see2_3 tm2_3 g2_3))), (h2, .inl (k 1, 24, .inl ff2_3)), (h3, .inl (k 1, 24, .inl fp2_3)), (x1, .inl (k 0, 240, .inl fx)), (x0, .inr (6, [.ref x1, .int (nI tz), .int (nI ta2_3), .int na2_3, .int fn__8, .int fb__8]))] := hD
        try dsimp only at hw_8
        have hP9 := hP.sub (ws' := [(h0, .inr (5, [.ref h1, .ref h2, .ref h3, .ref h4])), (h1, .inl (k 1, 10, .inl (vv n2_3 see2_3 tm2_3 g2_3))), (h2, .inl (k 1, 24, .inl ff2_3)), (h3, .inl (k 1, 24, .inl fp2_3)), (x0, .inr (6, [.ref x1, .int (nI tz), .int (nI ta2_3), .int na2_3, .int fn__8, .int fb__8])), (x1, .inl (k 0, 240, .inl fx))]) [0, 1, 2, 3, 5, 4] rfl
        have hD9 := hD.sub (ws' := [(h0, .inr (5, [.ref h1, .ref h2, .ref h3, .ref h4])), (h1, .inl (k 1, 10, .inl (vv n2_3 see2_3 tm2_3 g2_3))), (h2, .inl (k 1, 24, .inl ff2_3)), (h3, .inl (k 1, 24, .inl fp2_3)), (x0, .inr (6, [.ref x1, .int (nI tz), .int (nI ta2_3), .int na2_3, .int fn__8, .int fb__8])), (x1, .inl (k 0, 240, .inl fx))]) [0, 1, 2, 3, 5, 4] (by decide) rfl
        exact W.vret hx hb hr (fun t ht hW => ⟨⟨(n2_3, see2_3, tm2_3, g2_3, ff2_3, fp2_3, ta2_3, na2_3, fn__8, fb__8), rfl, ⟨by omega, by omega, by omega, by omega⟩, by rw [ht]; exact hP9, hD9⟩, hS.F ht⟩) hS.2.2 dX5_readFrom_142
  · have c_4 : ¬ (240 ≤ kk_3) := fun h => c_4 ((nI_leI (a := 240) (b := kk_3) (by omega) (by omega)).mpr h)
    refine lv_aload_n hx hb dX5_readFrom_25 rfl (lv_at hl 3 rfl) ?_
    refine ro_i (D := D) (va_runV (As := []) (rest := []) ⟨hx, hb, hml, hown, hts⟩ ((x_failed l D k st lo x0 x1 tz ta2_3 na2_3 fn2_3 fb2_3) H.size) (cwV 0 hts (gV tw_367 tw_368 tw_369 tw_80 tw_370) rfl rfl rfl (by decide +kernel) ⟨Nat.le_of_ble_eq_true rfl, Nat.le_of_ble_eq_true rfl⟩) (pV hS hAlo hlo hP hK (va_Dlo hD hAlo) hZ [4] (by decide) rfl (ci := 6) (q0 := 0) rfl rfl) rfl rfl hl.1 rfl (lv_room (Nat.le_of_ble_eq_true rfl)) dX5_readFrom_26 ⟨Nat.le_of_ble_eq_true rfl, Nat.le_of_ble_eq_true rfl⟩) hS hA hP (fun r_9 H locs hw_9 hP hS => ?_)
    try dsimp only at hw_9
    rcases hw_9 with ⟨rfl, hw_9⟩ | ⟨rfl, rfl⟩
    · refine lv_if_ne (tgt := 119) hx hb dX5_readFrom_29 (by decide) (fun _ => ?_) (fun h => absurd h (by decide))
      refine lv_aload_n hx hb dX5_readFrom_119 rfl (lv_at hl 3 rfl) ?_
      refine ro_i (D := D) (va_runV (As := []) (rest := []) ⟨hx, hb, hml, hown, hts⟩ ((x_failed l D k st lo x0 x1 tz ta2_3 na2_3 fn2_3 fb2_3) H.size) (cwV 0 hts (gV tw_367 tw_368 tw_369 tw_80 tw_370) rfl rfl rfl (by decide +kernel) ⟨Nat.le_of_ble_eq_true rfl, Nat.le_of_ble_eq_true rfl⟩) (pV hS hAlo hlo hP hK (va_Dlo hD hAlo) hZ [4] (by decide) rfl (ci := 6) (q0 := 0) rfl rfl) rfl rfl hl.1 rfl (lv_room (Nat.le_of_ble_eq_true rfl)) dX5_readFrom_120 ⟨Nat.le_of_ble_eq_true rfl, Nat.le_of_ble_eq_true rfl⟩) hS hA hP (fun r_10 H locs hw_10 hP hS => ?_)
      try dsimp only at hw_10
      obtain rfl : r_10 = 1 := by rcases hw_10 with ⟨h, h2⟩ | ⟨h, h2⟩ <;> first | exact h | exact absurd h2 hw_9
      refine lv_if_ne (tgt := 142) hx hb dX5_readFrom_123 (by decide) (fun _ => ?_) (fun h => absurd h (by decide))
      have hP9 := hP.sub (ws' := [(h0, .inr (5, [.ref h1, .ref h2, .ref h3, .ref h4])), (h1, .inl (k 1, 10, .inl (vv n2_3 see2_3 tm2_3 g2_3))), (h2, .inl (k 1, 24, .inl ff2_3)), (h3, .inl (k 1, 24, .inl fp2_3)), (x0, .inr (6, [.ref x1, .int (nI tz), .int (nI ta2_3), .int na2_3, .int fn2_3, .int fb2_3])), (x1, .inl (k 0, 240, .inl fx))]) [0, 1, 2, 3, 4, 5] rfl
      have hD9 := hD.sub (ws' := [(h0, .inr (5, [.ref h1, .ref h2, .ref h3, .ref h4])), (h1, .inl (k 1, 10, .inl (vv n2_3 see2_3 tm2_3 g2_3))), (h2, .inl (k 1, 24, .inl ff2_3)), (h3, .inl (k 1, 24, .inl fp2_3)), (x0, .inr (6, [.ref x1, .int (nI tz), .int (nI ta2_3), .int na2_3, .int fn2_3, .int fb2_3])), (x1, .inl (k 0, 240, .inl fx))]) [0, 1, 2, 3, 4, 5] (by decide) rfl
      exact W.vret hx hb hr (fun t ht hW => ⟨⟨(n2_3, see2_3, tm2_3, g2_3, ff2_3, fp2_3, ta2_3, na2_3, fn2_3, fb2_3), rfl, ⟨by omega, by omega, by omega, by omega⟩, by rw [ht]; exact hP9, hD9⟩, hS.F ht⟩) hS.2.2 dX5_readFrom_142
    · refine lv_if_ne (tgt := 119) hx hb dX5_readFrom_29 (by decide) (fun h => absurd (by decide) h) (fun _ => ?_)
      refine lv_aload_n hx hb dX5_readFrom_32 rfl (lv_at hl 3 rfl) ?_
      refine rw_i (D := D) (wr := [(h0, .inr (5, [.ref h1, .ref h2, .ref h3, .ref h4])), (h1, .inl (k 1, 10, .inl (vv n2_3 see2_3 tm2_3 g2_3))), (h2, .inl (k 1, 24, .inl ff2_3)), (h3, .inl (k 1, 24, .inl fp2_3))]) (va_runV (As := []) (rest := []) ⟨hx, hb, hml, hown, hts⟩ ((x_isAtEnd l D k st lo x0 x1 tz ta2_3 na2_3 0 fb2_3 fx (by omega) (by omega)) H.size) (cwV 0 hts (gV tw_371 tw_372 tw_373 tw_80 tw_374) rfl rfl rfl (by decide +kernel) ⟨Nat.le_of_ble_eq_true rfl, Nat.le_of_ble_eq_true rfl⟩) (pV hS hAlo hlo hP hK (va_Dlo hD hAlo) hZ [4, 5] (by decide) rfl (ci := 6) (q0 := 0) rfl rfl) rfl rfl hl.1 rfl (lv_room (Nat.le_of_ble_eq_true rfl)) dX5_readFrom_33 ⟨Nat.le_of_ble_eq_true rfl, Nat.le_of_ble_eq_true rfl⟩) hS hA hP hD [4, 5] [0, 1, 2, 3] rfl rfl (by decide) (by decide) (fun r_11 u H locs hw_11 hP hD hS => ?_)
      obtain ⟨ta__11, rfl⟩ : ∃ z, z = u := ⟨_, rfl⟩
      replace hP : va_P D classes [(h0, .inr (5, [.ref h1, .ref h2, .ref h3, .ref h4])), (h1, .inl (k 1, 10, .inl (vv n2_3 see2_3 tm2_3 g2_3))), (h2, .inl (k 1, 24, .inl ff2_3)), (h3, .inl (k 1, 24, .inl fp2_3)), (x0, .inr (6, [.ref x1, .int (nI tz), .int (nI ta__11), .int na2_3, .int 0, .int fb2_3])), (x1, .inl (k 0, 240, .inl fx))] H := hP
      replace hD : va_D A [(h0, .inr (5, [.ref h1, .ref h2, .ref h3, .ref h4])), (h1, .inl (k 1, 10, .inl (vv n2_3 see2_3 tm2_3 g2_3))), (h2, .inl (k 1, 24, .inl ff2_3)), (h3, .inl (k 1, 24, .inl fp2_3)), (x0, .inr (6, [.ref x1, .int (nI tz), .int (nI ta__11), .int na2_3, .int 0, .int fb2_3])), (x1, .inl (k 0, 240, .inl fx))] := hD
      try dsimp only at hw_11
      rcases hw_11 with ⟨rfl | rfl, hw_11⟩
      · refine lv_if_ne (tgt := 119) hx hb dX5_readFrom_36 (by decide) (fun _ => ?_) (fun h => absurd h (by decide))
        refine lv_aload_n hx hb dX5_readFrom_119 rfl (lv_at hl 3 rfl) ?_
        refine ro_i (D := D) (va_runV (As := []) (rest := []) ⟨hx, hb, hml, hown, hts⟩ ((x_failed l D k st lo x0 x1 tz ta__11 na2_3 0 fb2_3) H.size) (cwV 0 hts (gV tw_367 tw_368 tw_369 tw_80 tw_370) rfl rfl rfl (by decide +kernel) ⟨Nat.le_of_ble_eq_true rfl, Nat.le_of_ble_eq_true rfl⟩) (pV hS hAlo hlo hP hK (va_Dlo hD hAlo) hZ [4] (by decide) rfl (ci := 6) (q0 := 0) rfl rfl) rfl rfl hl.1 rfl (lv_room (Nat.le_of_ble_eq_true rfl)) dX5_readFrom_120 ⟨Nat.le_of_ble_eq_true rfl, Nat.le_of_ble_eq_true rfl⟩) hS hA hP (fun r_12 H locs hw_12 hP hS => ?_)
        try dsimp only at hw_12
        obtain rfl : r_12 = 0 := by rcases hw_12 with ⟨h, h2⟩ | ⟨h, h2⟩ <;> first | exact h | exact absurd rfl h2 | exact absurd h2 (by decide)
        refine lv_if_ne (tgt := 142) hx hb dX5_readFrom_123 (by decide) (fun h => absurd (by decide) h) (fun _ => ?_)
        refine lv_aload_n hx hb dX5_readFrom_126 rfl (lv_at hl 2 rfl) ?_
        refine ro_i (D := D) (va_runV (As := []) (rest := []) ⟨hx, hb, hml, hown, hts⟩ ((x_doors l D k st lo h0 h1 h2 h3 h4 n2_3 see2_3 tm2_3 g2_3) H.size) (cwV 0 hts (gV tw_477 tw_478 tw_479 tw_81 tw_480) rfl rfl rfl (by decide +kernel) ⟨Nat.le_of_ble_eq_true rfl, Nat.le_of_ble_eq_true rfl⟩) (pV hS hAlo hlo hP hK (va_Dlo hD hAlo) hZ [0, 1] (by decide) rfl (ci := 5) (q0 := 0) rfl rfl) rfl rfl hl.1 rfl (lv_room (Nat.le_of_ble_eq_true rfl)) dX5_readFrom_127 ⟨Nat.le_of_ble_eq_true rfl, Nat.le_of_ble_eq_true rfl⟩) hS hA hP (fun r_13 H locs hw_13 hP hS => ?_)
        try dsimp only at hw_13
        subst hw_13
        refine lv_if_ne (tgt := 142) hx hb dX5_readFrom_130 (by decide) (fun c_14 => ?_) (fun c_14 => ?_)
        · have c_14 : ¬ (n2_3 = 0) := fun h => c_14 ((nI_eq (a := n2_3) (b := 0) (by omega) (by omega)).mpr h)
          have hP9 := hP.sub (ws' := [(h0, .inr (5, [.ref h1, .ref h2, .ref h3, .ref h4])), (h1, .inl (k 1, 10, .inl (vv n2_3 see2_3 tm2_3 g2_3))), (h2, .inl (k 1, 24, .inl ff2_3)), (h3, .inl (k 1, 24, .inl fp2_3)), (x0, .inr (6, [.ref x1, .int (nI tz), .int (nI ta__11), .int na2_3, .int 0, .int fb2_3])), (x1, .inl (k 0, 240, .inl fx))]) [0, 1, 2, 3, 4, 5] rfl
          have hD9 := hD.sub (ws' := [(h0, .inr (5, [.ref h1, .ref h2, .ref h3, .ref h4])), (h1, .inl (k 1, 10, .inl (vv n2_3 see2_3 tm2_3 g2_3))), (h2, .inl (k 1, 24, .inl ff2_3)), (h3, .inl (k 1, 24, .inl fp2_3)), (x0, .inr (6, [.ref x1, .int (nI tz), .int (nI ta__11), .int na2_3, .int 0, .int fb2_3])), (x1, .inl (k 0, 240, .inl fx))]) [0, 1, 2, 3, 4, 5] (by decide) rfl
          exact W.vret hx hb hr (fun t ht hW => ⟨⟨(n2_3, see2_3, tm2_3, g2_3, ff2_3, fp2_3, ta__11, na2_3, 0, fb2_3), rfl, ⟨by omega, by omega, by omega, by omega⟩, by rw [ht]; exact hP9, hD9⟩, hS.F ht⟩) hS.2.2 dX5_readFrom_142
        · have c_14 := (nI_eq (a := n2_3) (b := 0) (by omega) (by omega)).mp c_14
          refine lv_aload_n hx hb dX5_readFrom_133 rfl (lv_at hl 3 rfl) ?_
          refine lv_iconst (v := 1) hx hb dX5_readFrom_134 (by decide) ?_
          refine lv_aload_n hx hb dX5_readFrom_135 rfl (lv_at hl 3 rfl) ?_
          refine va_get (D := D) (ci := 6) (v := .int (nI tz)) (C := RX6) (T := TX6) (N := 6) hx hb hts inX6 hown hK hP 4 rfl rfl 1 (by decide) (hts _ tw_112) (fun _ h9 => h9) rfl dX5_readFrom_136 ?_
          refine rw_v (D := D) (wr := [(h0, .inr (5, [.ref h1, .ref h2, .ref h3, .ref h4])), (h1, .inl (k 1, 10, .inl (vv n2_3 see2_3 tm2_3 g2_3))), (h2, .inl (k 1, 24, .inl ff2_3)), (h3, .inl (k 1, 24, .inl fp2_3)), (x1, .inl (k 0, 240, .inl fx))]) (va_runV (As := [.int 1, .int (nI tz)]) (rest := []) ⟨hx, hb, hml, hown, hts⟩ ((x_fail l D k st lo x0 x1 tz ta__11 na2_3 0 fb2_3 1 (nI tz) (by decide)) H.size) (cwV 2 hts (gV tw_455 tw_456 tw_457 tw_80 tw_458) rfl rfl rfl (by decide +kernel) ⟨Nat.le_of_ble_eq_true rfl, Nat.le_of_ble_eq_true rfl⟩) (pV hS hAlo hlo hP hK (va_Dlo hD hAlo) hZ [4] (by decide) rfl (ci := 6) (q0 := 0) rfl rfl) rfl rfl hl.1 rfl (lv_room (Nat.le_of_ble_eq_true rfl)) dX5_readFrom_139 ⟨Nat.le_of_ble_eq_true rfl, Nat.le_of_ble_eq_true rfl⟩) hS hA hP hD [4] [0, 1, 2, 3, 5] rfl rfl (by decide) (by decide) (fun u H locs hw_15 hP hD hS => ?_)
          obtain ⟨fn__15, fb__15⟩ := u
          replace hP : va_P D classes [(h0, .inr (5, [.ref h1, .ref h2, .ref h3, .ref h4])), (h1, .inl (k 1, 10, .inl (vv n2_3 see2_3 tm2_3 g2_3))), (h2, .inl (k 1, 24, .inl ff2_3)), (h3, .inl (k 1, 24, .inl fp2_3)), (x1, .inl (k 0, 240, .inl fx)), (x0, .inr (6, [.ref x1, .int (nI tz), .int (nI ta__11), .int na2_3, .int fn__15, .int fb__15]))] H := hP
          replace hD : va_D A [(h0, .inr (5, [.ref h1, .ref h2, .ref h3, .ref h4])), (h1, .inl (k 1, 10, .inl (vv n2_3 see2_3 tm2_3 g2_3))), (h2, .inl (k 1, 24, .inl ff2_3)), (h3, .inl (k 1, 24, .inl fp2_3)), (x1, .inl (k 0, 240, .inl fx)), (x0, .inr (6, [.ref x1, .int (nI tz), .int (nI ta__11), .int na2_3, .int fn__15, .int fb__15]))] := hD
          try dsimp only at hw_15
          have hP9 := hP.sub (ws' := [(h0, .inr (5, [.ref h1, .ref h2, .ref h3, .ref h4])), (h1, .inl (k 1, 10, .inl (vv n2_3 see2_3 tm2_3 g2_3))), (h2, .inl (k 1, 24, .inl ff2_3)), (h3, .inl (k 1, 24, .inl fp2_3)), (x0, .inr (6, [.ref x1, .int (nI tz), .int (nI ta__11), .int na2_3, .int fn__15, .int fb__15])), (x1, .inl (k 0, 240, .inl fx))]) [0, 1, 2, 3, 5, 4] rfl
          have hD9 := hD.sub (ws' := [(h0, .inr (5, [.ref h1, .ref h2, .ref h3, .ref h4])), (h1, .inl (k 1, 10, .inl (vv n2_3 see2_3 tm2_3 g2_3))), (h2, .inl (k 1, 24, .inl ff2_3)), (h3, .inl (k 1, 24, .inl fp2_3)), (x0, .inr (6, [.ref x1, .int (nI tz), .int (nI ta__11), .int na2_3, .int fn__15, .int fb__15])), (x1, .inl (k 0, 240, .inl fx))]) [0, 1, 2, 3, 5, 4] (by decide) rfl
          exact W.vret hx hb hr (fun t ht hW => ⟨⟨(n2_3, see2_3, tm2_3, g2_3, ff2_3, fp2_3, ta__11, na2_3, fn__15, fb__15), rfl, ⟨by omega, by omega, by omega, by omega⟩, by rw [ht]; exact hP9, hD9⟩, hS.F ht⟩) hS.2.2 dX5_readFrom_142
      · refine lv_if_ne (tgt := 119) hx hb dX5_readFrom_36 (by decide) (fun h => absurd (by decide) h) (fun _ => ?_)
        refine lv_aload_n hx hb dX5_readFrom_39 rfl (lv_at hl 3 rfl) ?_
        refine va_get (D := D) (ci := 6) (v := .int (nI ta__11)) (C := RX6) (T := TX6) (N := 6) hx hb hts inX6 hown hK hP 4 rfl rfl 2 (by decide) (hts _ tw_115) (fun _ h9 => h9) rfl dX5_readFrom_40 ?_
        refine lv_istore (lv' := [(4, .int (nI ta__11)), (3, .int (nI kk_3)), (2, .int to2_3), (0, .ref h0), (1, .ref x0)]) hx hb dX5_readFrom_43 hl (by decide) rfl (fun ls hl => ?_)
        refine lv_aload_n hx hb dX5_readFrom_45 rfl (lv_at hl 4 rfl) ?_
        refine rw_i (D := D) (wr := [(h0, .inr (5, [.ref h1, .ref h2, .ref h3, .ref h4])), (h1, .inl (k 1, 10, .inl (vv n2_3 see2_3 tm2_3 g2_3))), (h2, .inl (k 1, 24, .inl ff2_3)), (h3, .inl (k 1, 24, .inl fp2_3))]) (va_runS (As := [.ref x0]) (rest := []) ⟨hx, hb, hml, hown, hts⟩ ((x_takeClauseWord l D k st lo x0 x1 tz ta__11 na2_3 0 fb2_3 fx (by omega) (by omega)) H.size) (va_cwS 1 hts (gS tw_383 tw_384 tw_81 tw_385) rfl rfl rfl (by decide +kernel) ⟨Nat.le_of_ble_eq_true rfl, Nat.le_of_ble_eq_true rfl⟩) (pS hS hAlo hlo hP hK (va_Dlo hD hAlo) hZ [4, 5] (by decide) rfl) rfl rfl hl.1 rfl (lv_room (Nat.le_of_ble_eq_true rfl)) dX5_readFrom_46 ⟨Nat.le_of_ble_eq_true rfl, Nat.le_of_ble_eq_true rfl⟩) hS hA hP hD [4, 5] [0, 1, 2, 3] rfl rfl (by decide) (by decide) (fun r_16 u H locs hw_16 hP hD hS => ?_)
        obtain ⟨ta__16, rfl⟩ : ∃ z, z = u := ⟨_, rfl⟩
        replace hP : va_P D classes [(h0, .inr (5, [.ref h1, .ref h2, .ref h3, .ref h4])), (h1, .inl (k 1, 10, .inl (vv n2_3 see2_3 tm2_3 g2_3))), (h2, .inl (k 1, 24, .inl ff2_3)), (h3, .inl (k 1, 24, .inl fp2_3)), (x0, .inr (6, [.ref x1, .int (nI tz), .int (nI ta__16), .int na2_3, .int 0, .int fb2_3])), (x1, .inl (k 0, 240, .inl fx))] H := hP
        replace hD : va_D A [(h0, .inr (5, [.ref h1, .ref h2, .ref h3, .ref h4])), (h1, .inl (k 1, 10, .inl (vv n2_3 see2_3 tm2_3 g2_3))), (h2, .inl (k 1, 24, .inl ff2_3)), (h3, .inl (k 1, 24, .inl fp2_3)), (x0, .inr (6, [.ref x1, .int (nI tz), .int (nI ta__16), .int na2_3, .int 0, .int fb2_3])), (x1, .inl (k 0, 240, .inl fx))] := hD
        try dsimp only at hw_16
        rcases hw_16 with ⟨rfl | ⟨cl_17, hc_17, rfl⟩, hw_16⟩
        · refine lv_istore (lv' := [(5, .int (-1)), (4, .int (nI ta__11)), (3, .int (nI kk_3)), (2, .int to2_3), (0, .ref h0), (1, .ref x0)]) hx hb dX5_readFrom_49 hl (by decide) rfl (fun ls hl => ?_)
          refine lv_iload hx hb dX5_readFrom_51 (lv_at hl 0 rfl) ?_
          refine lv_iconst (v := (-1)) hx hb dX5_readFrom_53 (by decide) ?_
          refine lv_icmp_ne (tgt := 67) hx hb dX5_readFrom_54 (by decide) (fun h => absurd (by decide) h) (fun _ => ?_)
          refine lv_aload_n hx hb dX5_readFrom_57 rfl (lv_at hl 5 rfl) ?_
          refine lv_iconst (v := 1) hx hb dX5_readFrom_58 (by decide) ?_
          refine lv_iload hx hb dX5_readFrom_59 (lv_at hl 1 rfl) ?_
          refine rw_v (D := D) (wr := [(h0, .inr (5, [.ref h1, .ref h2, .ref h3, .ref h4])), (h1, .inl (k 1, 10, .inl (vv n2_3 see2_3 tm2_3 g2_3))), (h2, .inl (k 1, 24, .inl ff2_3)), (h3, .inl (k 1, 24, .inl fp2_3)), (x1, .inl (k 0, 240, .inl fx))]) (va_runV (As := [.int 1, .int (nI ta__11)]) (rest := []) ⟨hx, hb, hml, hown, hts⟩ ((x_fail l D k st lo x0 x1 tz ta__16 na2_3 0 fb2_3 1 (nI ta__11) (by decide)) H.size) (cwV 2 hts (gV tw_455 tw_456 tw_457 tw_80 tw_458) rfl rfl rfl (by decide +kernel) ⟨Nat.le_of_ble_eq_true rfl, Nat.le_of_ble_eq_true rfl⟩) (pV hS hAlo hlo hP hK (va_Dlo hD hAlo) hZ [4] (by decide) rfl (ci := 6) (q0 := 0) rfl rfl) rfl rfl hl.1 rfl (lv_room (Nat.le_of_ble_eq_true rfl)) dX5_readFrom_61 ⟨Nat.le_of_ble_eq_true rfl, Nat.le_of_ble_eq_true rfl⟩) hS hA hP hD [4] [0, 1, 2, 3, 5] rfl rfl (by decide) (by decide) (fun u H locs hw_18 hP hD hS => ?_)
          obtain ⟨fn__18, fb__18⟩ := u
          replace hP : va_P D classes [(h0, .inr (5, [.ref h1, .ref h2, .ref h3, .ref h4])), (h1, .inl (k 1, 10, .inl (vv n2_3 see2_3 tm2_3 g2_3))), (h2, .inl (k 1, 24, .inl ff2_3)), (h3, .inl (k 1, 24, .inl fp2_3)), (x1, .inl (k 0, 240, .inl fx)), (x0, .inr (6, [.ref x1, .int (nI tz), .int (nI ta__16), .int na2_3, .int fn__18, .int fb__18]))] H := hP
          replace hD : va_D A [(h0, .inr (5, [.ref h1, .ref h2, .ref h3, .ref h4])), (h1, .inl (k 1, 10, .inl (vv n2_3 see2_3 tm2_3 g2_3))), (h2, .inl (k 1, 24, .inl ff2_3)), (h3, .inl (k 1, 24, .inl fp2_3)), (x1, .inl (k 0, 240, .inl fx)), (x0, .inr (6, [.ref x1, .int (nI tz), .int (nI ta__16), .int na2_3, .int fn__18, .int fb__18]))] := hD
          try dsimp only at hw_18
          refine lv_goto (tgt := 113) hx hb dX5_readFrom_64 (by decide) ?_
          refine lv_iinc (v := (nI (kk_3 + 1))) (lv' := [(3, .int (nI (kk_3 + 1))), (5, .int (-1)), (4, .int (nI ta__11)), (2, .int to2_3), (0, .ref h0), (1, .ref x0)]) hx hb dX5_readFrom_113 hl (k := 2) rfl (nI_add kk_3 1) (by decide) rfl (fun ls hl => ?_)
          refine lv_goto (tgt := 18) hx hb dX5_readFrom_116 (by decide) ?_
          exact ih_3 _ (kk_3 + 1, to2_3, n2_3, see2_3, tm2_3, g2_3, ff2_3, fp2_3, ta__16, na2_3, fn__18, fb__18) _ _ _ (by omega) ⟨rfl, ⟨by omega, by omega, by omega, by omega, by omega⟩, (hP.sub [0, 1, 2, 3, 5, 4] rfl), (hD.sub [0, 1, 2, 3, 5, 4] (by decide) rfl), hS, (lv_sub hl [0, 3, 4, 5] rfl)⟩
        · refine lv_istore (lv' := [(5, .int (nI cl_17)), (4, .int (nI ta__11)), (3, .int (nI kk_3)), (2, .int to2_3), (0, .ref h0), (1, .ref x0)]) hx hb dX5_readFrom_49 hl (by decide) rfl (fun ls hl => ?_)
          refine lv_iload hx hb dX5_readFrom_51 (lv_at hl 0 rfl) ?_
          refine lv_iconst (v := (-1)) hx hb dX5_readFrom_53 (by decide) ?_
          refine lv_icmp_ne (tgt := 67) hx hb dX5_readFrom_54 (by decide) (fun _ => ?_) (fun h => absurd h (nI_ne' (by omega) (by decide)))
          refine lv_iload_n hx hb dX5_readFrom_67 rfl (lv_at hl 3 rfl) ?_
          refine lv_iload hx hb dX5_readFrom_68 (lv_at hl 0 rfl) ?_
          refine lv_ishr hx hb dX5_readFrom_70 ?_
          refine lv_topi (fun x_19 ex_19 => ?_)
          refine lv_iconst (v := 1) hx hb dX5_readFrom_71 (by decide) ?_
          refine lv_iand hx hb dX5_readFrom_72 ?_
          refine lv_topi (fun x_20 ex_20 => ?_)
          refine lv_if_eq (tgt := 86) hx hb dX5_readFrom_73 (by decide) (fun c_21 => ?_) (fun c_21 => ?_)
          · refine lv_iload hx hb dX5_readFrom_86 (lv_at hl 0 rfl) ?_
            refine lv_if_ne (tgt := 99) hx hb dX5_readFrom_88 (by decide) (fun c_22 => ?_) (fun c_22 => ?_)
            · have c_22 : ¬ (cl_17 = 0) := fun h => c_22 ((nI_eq (a := cl_17) (b := 0) (by omega) (by omega)).mpr h)
              refine lv_aload_n hx hb dX5_readFrom_99 rfl (lv_at hl 4 rfl) ?_
              refine lv_aload_n hx hb dX5_readFrom_100 rfl (lv_at hl 5 rfl) ?_
              refine lv_iload hx hb dX5_readFrom_101 (lv_at hl 0 rfl) ?_
              refine rw_v (D := D) (wr := [(h2, .inl (k 1, 24, .inl ff2_3)), (h3, .inl (k 1, 24, .inl fp2_3))]) (va_runV (As := [.ref x0, .int (nI cl_17)]) (rest := []) ⟨hx, hb, hml, hown, hts⟩ ((x_readClause l D k st lo h0 h1 h2 h3 h4 n2_3 see2_3 tm2_3 g2_3 x0 x1 tz ta__16 na2_3 0 fb2_3 fx cl_17 (by omega) (by omega) (by omega) (by omega) (by omega)) H.size) (cwV 2 hts (gV tw_492 tw_494 tw_1 tw_81 tw_495) rfl rfl rfl (by decide +kernel) ⟨Nat.le_of_ble_eq_true rfl, Nat.le_of_ble_eq_true rfl⟩) (pV hS hAlo hlo hP hK (va_Dlo hD hAlo) hZ [0, 1, 4, 5] (by decide) rfl (ci := 5) (q0 := 0) rfl rfl) rfl rfl hl.1 rfl (lv_room (Nat.le_of_ble_eq_true rfl)) dX5_readFrom_103 ⟨Nat.le_of_ble_eq_true rfl, Nat.le_of_ble_eq_true rfl⟩) hS hA hP hD [0, 1, 4, 5] [2, 3] rfl rfl (by decide) (by decide) (fun u H locs hw_23 hP hD hS => ?_)
              obtain ⟨see__23, tm__23, g__23, ta__23, na__23, fn__23, fb__23⟩ := u
              replace hP : va_P D classes [(h2, .inl (k 1, 24, .inl ff2_3)), (h3, .inl (k 1, 24, .inl fp2_3)), (h0, .inr (5, [.ref h1, .ref h2, .ref h3, .ref h4])), (h1, .inl (k 1, 10, .inl (vv n2_3 see__23 tm__23 g__23))), (x0, .inr (6, [.ref x1, .int (nI tz), .int (nI ta__23), .int na__23, .int fn__23, .int fb__23])), (x1, .inl (k 0, 240, .inl fx))] H := hP
              replace hD : va_D A [(h2, .inl (k 1, 24, .inl ff2_3)), (h3, .inl (k 1, 24, .inl fp2_3)), (h0, .inr (5, [.ref h1, .ref h2, .ref h3, .ref h4])), (h1, .inl (k 1, 10, .inl (vv n2_3 see__23 tm__23 g__23))), (x0, .inr (6, [.ref x1, .int (nI tz), .int (nI ta__23), .int na__23, .int fn__23, .int fb__23])), (x1, .inl (k 0, 240, .inl fx))] := hD
              try dsimp only at hw_23
              refine lv_iload_n hx hb dX5_readFrom_106 rfl (lv_at hl 3 rfl) ?_
              refine lv_iconst (v := 1) hx hb dX5_readFrom_107 (by decide) ?_
              refine lv_iload hx hb dX5_readFrom_108 (lv_at hl 0 rfl) ?_
              refine lv_ishl hx hb dX5_readFrom_110 ?_
              refine lv_topi (fun x_24 ex_24 => ?_)
              refine lv_ior hx hb dX5_readFrom_111 ?_
              refine lv_topi (fun x_25 ex_25 => ?_)
              refine lv_istore_n (lv' := [(2, .int x_25), (5, .int (nI cl_17)), (4, .int (nI ta__11)), (3, .int (nI kk_3)), (0, .ref h0), (1, .ref x0)]) hx hb dX5_readFrom_112 rfl hl (by decide) rfl (fun ls hl => ?_)
              refine lv_iinc (v := (nI (kk_3 + 1))) (lv' := [(3, .int (nI (kk_3 + 1))), (2, .int x_25), (5, .int (nI cl_17)), (4, .int (nI ta__11)), (0, .ref h0), (1, .ref x0)]) hx hb dX5_readFrom_113 hl (k := 3) rfl (nI_add kk_3 1) (by decide) rfl (fun ls hl => ?_)
              refine lv_goto (tgt := 18) hx hb dX5_readFrom_116 (by decide) ?_
              exact ih_3 _ (kk_3 + 1, x_25, n2_3, see__23, tm__23, g__23, ff2_3, fp2_3, ta__23, na__23, fn__23, fb__23) _ _ _ (by omega) ⟨rfl, ⟨by omega, by omega, by omega, by omega, by omega⟩, (hP.sub [2, 3, 0, 1, 4, 5] rfl), (hD.sub [2, 3, 0, 1, 4, 5] (by decide) rfl), hS, (lv_sub hl [0, 1, 4, 5] rfl)⟩
            · have c_22 := (nI_eq (a := cl_17) (b := 0) (by omega) (by omega)).mp c_22
              refine lv_aload_n hx hb dX5_readFrom_91 rfl (lv_at hl 4 rfl) ?_
              refine lv_aload_n hx hb dX5_readFrom_92 rfl (lv_at hl 5 rfl) ?_
              refine rw_v (D := D) (wr := []) (va_runV (As := [.ref x0]) (rest := []) ⟨hx, hb, hml, hown, hts⟩ ((x_readDoors l D k st lo h0 h1 h2 h3 h4 n2_3 see2_3 tm2_3 g2_3 ff2_3 fp2_3 x0 x1 tz ta__16 na2_3 0 fb2_3 fx (by omega) (by omega) (by omega)) H.size) (cwV 1 hts (gV tw_459 tw_461 tw_0 tw_81 tw_462) rfl rfl rfl (by decide +kernel) ⟨Nat.le_of_ble_eq_true rfl, Nat.le_of_ble_eq_true rfl⟩) (pV hS hAlo hlo hP hK (va_Dlo hD hAlo) hZ [0, 1, 2, 3, 4, 5] (by decide) rfl (ci := 5) (q0 := 0) rfl rfl) rfl rfl hl.1 rfl (lv_room (Nat.le_of_ble_eq_true rfl)) dX5_readFrom_93 ⟨Nat.le_of_ble_eq_true rfl, Nat.le_of_ble_eq_true rfl⟩) hS hA hP hD [0, 1, 2, 3, 4, 5] [] rfl rfl (by decide) (by decide) (fun u H locs hw_26 hP hD hS => ?_)
              obtain ⟨n__26, ff__26, fp__26, ta__26, na__26, fn__26, fb__26⟩ := u
              replace hP : va_P D classes [(h0, .inr (5, [.ref h1, .ref h2, .ref h3, .ref h4])), (h1, .inl (k 1, 10, .inl (vv n__26 see2_3 tm2_3 g2_3))), (h2, .inl (k 1, 24, .inl ff__26)), (h3, .inl (k 1, 24, .inl fp__26)), (x0, .inr (6, [.ref x1, .int (nI tz), .int (nI ta__26), .int na__26, .int fn__26, .int fb__26])), (x1, .inl (k 0, 240, .inl fx))] H := hP
              replace hD : va_D A [(h0, .inr (5, [.ref h1, .ref h2, .ref h3, .ref h4])), (h1, .inl (k 1, 10, .inl (vv n__26 see2_3 tm2_3 g2_3))), (h2, .inl (k 1, 24, .inl ff__26)), (h3, .inl (k 1, 24, .inl fp__26)), (x0, .inr (6, [.ref x1, .int (nI tz), .int (nI ta__26), .int na__26, .int fn__26, .int fb__26])), (x1, .inl (k 0, 240, .inl fx))] := hD
              try dsimp only at hw_26
              refine lv_goto (tgt := 113) hx hb dX5_readFrom_96 (by decide) ?_
              refine lv_iinc (v := (nI (kk_3 + 1))) (lv' := [(3, .int (nI (kk_3 + 1))), (5, .int (nI cl_17)), (4, .int (nI ta__11)), (2, .int to2_3), (0, .ref h0), (1, .ref x0)]) hx hb dX5_readFrom_113 hl (k := 2) rfl (nI_add kk_3 1) (by decide) rfl (fun ls hl => ?_)
              refine lv_goto (tgt := 18) hx hb dX5_readFrom_116 (by decide) ?_
              exact ih_3 _ (kk_3 + 1, to2_3, n__26, see2_3, tm2_3, g2_3, ff__26, fp__26, ta__26, na__26, fn__26, fb__26) _ _ _ (by omega) ⟨rfl, ⟨by omega, by omega, by omega, by omega, by omega⟩, hP, hD, hS, (lv_sub hl [0, 3, 4, 5] rfl)⟩
          · refine lv_aload_n hx hb dX5_readFrom_76 rfl (lv_at hl 5 rfl) ?_
            refine lv_iconst (v := 3) hx hb dX5_readFrom_77 (by decide) ?_
            refine lv_iload hx hb dX5_readFrom_78 (lv_at hl 1 rfl) ?_
            refine rw_v (D := D) (wr := [(h0, .inr (5, [.ref h1, .ref h2, .ref h3, .ref h4])), (h1, .inl (k 1, 10, .inl (vv n2_3 see2_3 tm2_3 g2_3))), (h2, .inl (k 1, 24, .inl ff2_3)), (h3, .inl (k 1, 24, .inl fp2_3)), (x1, .inl (k 0, 240, .inl fx))]) (va_runV (As := [.int 3, .int (nI ta__11)]) (rest := []) ⟨hx, hb, hml, hown, hts⟩ ((x_fail l D k st lo x0 x1 tz ta__16 na2_3 0 fb2_3 3 (nI ta__11) (by decide)) H.size) (cwV 2 hts (gV tw_455 tw_456 tw_457 tw_80 tw_458) rfl rfl rfl (by decide +kernel) ⟨Nat.le_of_ble_eq_true rfl, Nat.le_of_ble_eq_true rfl⟩) (pV hS hAlo hlo hP hK (va_Dlo hD hAlo) hZ [4] (by decide) rfl (ci := 6) (q0 := 0) rfl rfl) rfl rfl hl.1 rfl (lv_room (Nat.le_of_ble_eq_true rfl)) dX5_readFrom_80 ⟨Nat.le_of_ble_eq_true rfl, Nat.le_of_ble_eq_true rfl⟩) hS hA hP hD [4] [0, 1, 2, 3, 5] rfl rfl (by decide) (by decide) (fun u H locs hw_27 hP hD hS => ?_)
            obtain ⟨fn__27, fb__27⟩ := u
            replace hP : va_P D classes [(h0, .inr (5, [.ref h1, .ref h2, .ref h3, .ref h4])), (h1, .inl (k 1, 10, .inl (vv n2_3 see2_3 tm2_3 g2_3))), (h2, .inl (k 1, 24, .inl ff2_3)), (h3, .inl (k 1, 24, .inl fp2_3)), (x1, .inl (k 0, 240, .inl fx)), (x0, .inr (6, [.ref x1, .int (nI tz), .int (nI ta__16), .int na2_3, .int fn__27, .int fb__27]))] H := hP
            replace hD : va_D A [(h0, .inr (5, [.ref h1, .ref h2, .ref h3, .ref h4])), (h1, .inl (k 1, 10, .inl (vv n2_3 see2_3 tm2_3 g2_3))), (h2, .inl (k 1, 24, .inl ff2_3)), (h3, .inl (k 1, 24, .inl fp2_3)), (x1, .inl (k 0, 240, .inl fx)), (x0, .inr (6, [.ref x1, .int (nI tz), .int (nI ta__16), .int na2_3, .int fn__27, .int fb__27]))] := hD
            try dsimp only at hw_27
            refine lv_goto (tgt := 113) hx hb dX5_readFrom_83 (by decide) ?_
            refine lv_iinc (v := (nI (kk_3 + 1))) (lv' := [(3, .int (nI (kk_3 + 1))), (5, .int (nI cl_17)), (4, .int (nI ta__11)), (2, .int to2_3), (0, .ref h0), (1, .ref x0)]) hx hb dX5_readFrom_113 hl (k := 2) rfl (nI_add kk_3 1) (by decide) rfl (fun ls hl => ?_)
            refine lv_goto (tgt := 18) hx hb dX5_readFrom_116 (by decide) ?_
            exact ih_3 _ (kk_3 + 1, to2_3, n2_3, see2_3, tm2_3, g2_3, ff2_3, fp2_3, ta__16, na2_3, fn__27, fb__27) _ _ _ (by omega) ⟨rfl, ⟨by omega, by omega, by omega, by omega, by omega⟩, (hP.sub [0, 1, 2, 3, 5, 4] rfl), (hD.sub [0, 1, 2, 3, 5, 4] (by decide) rfl), hS, (lv_sub hl [0, 3, 4, 5] rfl)⟩


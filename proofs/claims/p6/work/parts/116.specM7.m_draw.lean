theorem dX8_draw_0 : decode cX8_draw 0 = .ok (.aload_n 0, 1) := by decide +kernel
theorem dX8_draw_1 : decode cX8_draw 1 = .ok (.aload_n 0, 1) := by decide +kernel
theorem dX8_draw_2 : decode cX8_draw 2 = .ok (.getfield 374, 3) := by decide +kernel
theorem dX8_draw_5 : decode cX8_draw 5 = .ok (.i2l, 1) := by decide +kernel
theorem dX8_draw_6 : decode cX8_draw 6 = .ok (.ldc2_w 377, 3) := by decide +kernel
theorem dX8_draw_9 : decode cX8_draw 9 = .ok (.lmul, 1) := by decide +kernel
theorem dX8_draw_10 : decode cX8_draw 10 = .ok (.ldc2_w 379, 3) := by decide +kernel
theorem dX8_draw_13 : decode cX8_draw 13 = .ok (.ladd, 1) := by decide +kernel
theorem dX8_draw_14 : decode cX8_draw 14 = .ok (.ldc2_w 381, 3) := by decide +kernel
theorem dX8_draw_17 : decode cX8_draw 17 = .ok (.lrem, 1) := by decide +kernel
theorem dX8_draw_18 : decode cX8_draw 18 = .ok (.l2i, 1) := by decide +kernel
theorem dX8_draw_19 : decode cX8_draw 19 = .ok (.putfield 374, 3) := by decide +kernel
theorem dX8_draw_22 : decode cX8_draw 22 = .ok (.aload_n 0, 1) := by decide +kernel
theorem dX8_draw_23 : decode cX8_draw 23 = .ok (.getfield 374, 3) := by decide +kernel
theorem dX8_draw_26 : decode cX8_draw 26 = .ok (.ldc_w 383, 3) := by decide +kernel
theorem dX8_draw_29 : decode cX8_draw 29 = .ok (.idiv, 1) := by decide +kernel
theorem dX8_draw_30 : decode cX8_draw 30 = .ok (.bipush 100, 2) := by decide +kernel
theorem dX8_draw_32 : decode cX8_draw 32 = .ok (.irem, 1) := by decide +kernel
theorem dX8_draw_33 : decode cX8_draw 33 = .ok (.ireturn, 1) := by decide +kernel
set_option maxHeartbeats 4000000 in
set_option maxRecDepth 100000 in
theorem m_draw (l : Launch) (D : va_G) (k : Nat → ClassId) (st : Nat → Nat) (lo : Nat) (a : Nat → Nat) (tx : Nat) (t0 : Nat) (we : Nat) (rd : Nat) (ru : Nat) (rw : Nat) (ca : Nat) (fp : Int32) (wd : Int64) (nu : Int32) (na : Int32) (ts : Int32) (df : Int32) (db : Int32) (sd : Int32)  : CWi l D k st lo yX8_draw cX8_draw 1 (some .int) ({ frames := 0, cells := 0, slots := 0, locals := 0 }) 0 0 [.ref (a 0)] [((a 0), .inr (8, (fX8 a (nI tx) fp (nI t0) wd (nI we) nu na (nI rd) ts (nI ru) (nI rw) (nI ca) df db sd)))] (fun (r : Int32) (sd_ : Int32) => True) (fun (sd_ : Int32) => [((a 0), .inr (8, (fX8 a (nI tx) fp (nI t0) wd (nI we) nu na (nI rd) ts (nI ru) (nI rw) (nI ca) df db sd_)))]) := by
  intro sz
  refine Met.ofW (cc := cX8_draw) (maxL := 1) (ret := (some .int)) (by decide) rfl ?_
  intro p e s m args below meth c s₁ B hml hv
  obtain ⟨rfl, hsz, hlo, hP, hK, hDL, hZ⟩ := hv
  have hx := B.exec
  have hb := B.bytes
  have hr := B.returns
  have hts := WS_ts B.pre
  have hown : s.vm.findClass RX8 = some m.cls := findClass_of_methodNamed B.named
  have hlocks := B.notSynchronized
  subst hsz
  have hD := hDL.self (sz := s.heap.size)
  have hAlo := A_lo hDL hlo
  generalize hAe : va_A [((a 0), .inr (8, (fX8 a (nI tx) fp (nI t0) wd (nI we) nu na (nI rd) ts (nI ru) (nI rw) (nI ca) df db sd)))] s.heap.size = A at hD hAlo ⊢
  have hA : ∀ q : Nat, s.heap.size ≤ q → A q := fun q h => by rw [← hAe]; exact Or.inr h
  have hS : va_S A s.heap s.heap [] := va_S.rf
  have hl := lv_entry ([.ref (a 0)]) (n := 1) (Nat.le_of_ble_eq_true rfl)
  rw [lg_entry_eq]
  generalize (lg_sl ([.ref (a 0)]) ++ List.replicate (1 - (lg_sl ([.ref (a 0)])).length) Slot.unset).toArray = ls at hl ⊢
  have hl : lv_has ls 1 [(0, .ref (a 0))] := hl
  refine lv_aload_n hx hb dX8_draw_0 rfl (lv_at hl 0 rfl) ?_
  refine lv_aload_n hx hb dX8_draw_1 rfl (lv_at hl 0 rfl) ?_
  refine va_get (D := D) (ci := 8) (v := .int sd) (C := RX8) (T := TX8) (N := 44) hx hb hts inX8 hown hK hP 0 rfl rfl 41 (by decide) (hts _ tw_1014) (fun _ h9 => h9) rfl dX8_draw_2 ?_
  refine lv_i2l (v := sd.toInt64) hx hb dX8_draw_5 rfl ?_
  refine lv_ldc2 hx hb hown (hts _ tw_1484) dX8_draw_6 ?_
  refine lv_lmul hx hb dX8_draw_9 ?_
  refine lv_topl (fun x_1 ex_1 => ?_)
  refine lv_ldc2 hx hb hown (hts _ tw_1485) dX8_draw_10 ?_
  refine lv_ladd hx hb dX8_draw_13 ?_
  refine lv_topl (fun x_2 ex_2 => ?_)
  refine lv_ldc2 hx hb hown (hts _ tw_1486) dX8_draw_14 ?_
  refine lv_lrem hx hb dX8_draw_17 (by decide) ?_
  refine lv_topl (fun x_3 ex_3 => ?_)
  refine lv_l2i hx hb dX8_draw_18 rfl ?_
  refine lv_topi (fun x_4 ex_4 => ?_)
  refine va_put (D := D) (ci := 8) (v := .int x_4) (ty := .int) (C := RX8) (T := TX8) (N := 44) hx hb hts inX8 tyX8 tyX8_ok nmX8 hown hK hP hD hS 0 rfl rfl 41 (by decide) (hts _ tw_1014) (fun _ h9 => h9) rfl (by decide +kernel) rfl rfl (Nat.le_of_ble_eq_true rfl) dX8_draw_19 (fun H locs hP hD hS => ?_)
  replace hP : va_P D classes [((a 0), .inr (8, (fX8 a (nI tx) fp (nI t0) wd (nI we) nu na (nI rd) ts (nI ru) (nI rw) (nI ca) df db x_4)))] H := hP
  replace hD : va_D A [((a 0), .inr (8, (fX8 a (nI tx) fp (nI t0) wd (nI we) nu na (nI rd) ts (nI ru) (nI rw) (nI ca) df db x_4)))] := hD
  refine lv_aload_n hx hb dX8_draw_22 rfl (lv_at hl 0 rfl) ?_
  refine va_get (D := D) (ci := 8) (v := .int x_4) (C := RX8) (T := TX8) (N := 44) hx hb hts inX8 hown hK hP 0 rfl rfl 41 (by decide) (hts _ tw_1014) (fun _ h9 => h9) rfl dX8_draw_23 ?_
  refine lv_ldcw hx hb hown (hts _ tw_1487) dX8_draw_26 ?_
  refine lv_idiv hx hb dX8_draw_29 (by decide) ?_
  refine lv_topi (fun x_5 ex_5 => ?_)
  refine lv_bipush (v := 100) hx hb dX8_draw_30 (by decide) ?_
  refine lv_irem hx hb dX8_draw_32 (by decide) ?_
  refine lv_topi (fun x_6 ex_6 => ?_)
  have hP9 := hP.sub (ws' := [((a 0), .inr (8, (fX8 a (nI tx) fp (nI t0) wd (nI we) nu na (nI rd) ts (nI ru) (nI rw) (nI ca) df db x_4)))]) [0] rfl
  have hD9 := hD.sub (ws' := [((a 0), .inr (8, (fX8 a (nI tx) fp (nI t0) wd (nI we) nu na (nI rd) ts (nI ru) (nI rw) (nI ca) df db x_4)))]) [0] (by decide) rfl
  exact W.iret (v := x_6) hx hb hr (fun t ht hW => ⟨⟨x_6, x_4, rfl, trivial, by rw [ht]; exact hP9, hD9⟩, hS.F ht⟩) hS.2.2 dX8_draw_33

theorem f_m_bar_rows : True := trivial
theorem dX8_bar_0 : decode cX8_bar 0 = .ok (.aload_n 0, 1) := by decide +kernel
theorem dX8_bar_1 : decode cX8_bar 1 = .ok (.iload_n 1, 1) := by decide +kernel
theorem dX8_bar_2 : decode cX8_bar 2 = .ok (.invokevirtual 206, 3) := by decide +kernel
theorem dX8_bar_5 : decode cX8_bar 5 = .ok (.ifCond .ne 7, 3) := by decide +kernel
theorem dX8_bar_8 : decode cX8_bar 8 = .ok (.sipush (-1001), 3) := by decide +kernel
theorem dX8_bar_11 : decode cX8_bar 11 = .ok (.ireturn, 1) := by decide +kernel
theorem dX8_bar_12 : decode cX8_bar 12 = .ok (.aload_n 0, 1) := by decide +kernel
theorem dX8_bar_13 : decode cX8_bar 13 = .ok (.iload_n 1, 1) := by decide +kernel
theorem dX8_bar_14 : decode cX8_bar 14 = .ok (.iload_n 2, 1) := by decide +kernel
theorem dX8_bar_15 : decode cX8_bar 15 = .ok (.invokevirtual 234, 3) := by decide +kernel
theorem dX8_bar_18 : decode cX8_bar 18 = .ok (.ifCond .ne 7, 3) := by decide +kernel
theorem dX8_bar_21 : decode cX8_bar 21 = .ok (.sipush (-1002), 3) := by decide +kernel
theorem dX8_bar_24 : decode cX8_bar 24 = .ok (.ireturn, 1) := by decide +kernel
theorem dX8_bar_25 : decode cX8_bar 25 = .ok (.aload_n 0, 1) := by decide +kernel
theorem dX8_bar_26 : decode cX8_bar 26 = .ok (.iload_n 1, 1) := by decide +kernel
theorem dX8_bar_27 : decode cX8_bar 27 = .ok (.invokevirtual 268, 3) := by decide +kernel
theorem dX8_bar_30 : decode cX8_bar 30 = .ok (.aload_n 0, 1) := by decide +kernel
theorem dX8_bar_31 : decode cX8_bar 31 = .ok (.getfield 7, 3) := by decide +kernel
theorem dX8_bar_34 : decode cX8_bar 34 = .ok (.iload_n 1, 1) := by decide +kernel
theorem dX8_bar_35 : decode cX8_bar 35 = .ok (.iaload, 1) := by decide +kernel
theorem dX8_bar_36 : decode cX8_bar 36 = .ok (.istore_n 3, 1) := by decide +kernel
theorem dX8_bar_37 : decode cX8_bar 37 = .ok (.iconst 0, 1) := by decide +kernel
theorem dX8_bar_38 : decode cX8_bar 38 = .ok (.istore 4, 2) := by decide +kernel
theorem dX8_bar_40 : decode cX8_bar 40 = .ok (.iload 4, 2) := by decide +kernel
theorem dX8_bar_42 : decode cX8_bar 42 = .ok (.iload_n 3, 1) := by decide +kernel
theorem dX8_bar_43 : decode cX8_bar 43 = .ok (.if_icmp .gt 95, 3) := by decide +kernel
theorem dX8_bar_46 : decode cX8_bar 46 = .ok (.iconst 1, 1) := by decide +kernel
theorem dX8_bar_47 : decode cX8_bar 47 = .ok (.istore 5, 2) := by decide +kernel
theorem dX8_bar_49 : decode cX8_bar 49 = .ok (.iconst 0, 1) := by decide +kernel
theorem dX8_bar_50 : decode cX8_bar 50 = .ok (.istore 6, 2) := by decide +kernel
theorem dX8_bar_52 : decode cX8_bar 52 = .ok (.iload 6, 2) := by decide +kernel
theorem dX8_bar_54 : decode cX8_bar 54 = .ok (.iload_n 3, 1) := by decide +kernel
theorem dX8_bar_55 : decode cX8_bar 55 = .ok (.if_icmp .ge 69, 3) := by decide +kernel
theorem dX8_bar_58 : decode cX8_bar 58 = .ok (.iconst 1, 1) := by decide +kernel
theorem dX8_bar_59 : decode cX8_bar 59 = .ok (.istore 7, 2) := by decide +kernel
theorem dX8_bar_61 : decode cX8_bar 61 = .ok (.iload 7, 2) := by decide +kernel
theorem dX8_bar_63 : decode cX8_bar 63 = .ok (.iconst 1, 1) := by decide +kernel
theorem dX8_bar_64 : decode cX8_bar 64 = .ok (.aload_n 0, 1) := by decide +kernel
theorem dX8_bar_65 : decode cX8_bar 65 = .ok (.iload_n 1, 1) := by decide +kernel
theorem dX8_bar_66 : decode cX8_bar 66 = .ok (.iload 6, 2) := by decide +kernel
theorem dX8_bar_68 : decode cX8_bar 68 = .ok (.invokevirtual 251, 3) := by decide +kernel
theorem dX8_bar_71 : decode cX8_bar 71 = .ok (.ishl, 1) := by decide +kernel
theorem dX8_bar_72 : decode cX8_bar 72 = .ok (.if_icmp .ge 46, 3) := by decide +kernel
theorem dX8_bar_75 : decode cX8_bar 75 = .ok (.iload 5, 2) := by decide +kernel
theorem dX8_bar_77 : decode cX8_bar 77 = .ok (.ifCond .eq 32, 3) := by decide +kernel
theorem dX8_bar_80 : decode cX8_bar 80 = .ok (.aload_n 0, 1) := by decide +kernel
theorem dX8_bar_81 : decode cX8_bar 81 = .ok (.iload_n 1, 1) := by decide +kernel
theorem dX8_bar_82 : decode cX8_bar 82 = .ok (.iload_n 2, 1) := by decide +kernel
theorem dX8_bar_83 : decode cX8_bar 83 = .ok (.iload 6, 2) := by decide +kernel
theorem dX8_bar_85 : decode cX8_bar 85 = .ok (.iload 7, 2) := by decide +kernel
theorem dX8_bar_87 : decode cX8_bar 87 = .ok (.invokevirtual 272, 3) := by decide +kernel
theorem dX8_bar_90 : decode cX8_bar 90 = .ok (.iload 6, 2) := by decide +kernel
theorem dX8_bar_92 : decode cX8_bar 92 = .ok (.iload 4, 2) := by decide +kernel
theorem dX8_bar_94 : decode cX8_bar 94 = .ok (.if_icmp .lt 7, 3) := by decide +kernel
theorem dX8_bar_97 : decode cX8_bar 97 = .ok (.iconst 1, 1) := by decide +kernel
theorem dX8_bar_98 : decode cX8_bar 98 = .ok (.goto 4, 3) := by decide +kernel
theorem dX8_bar_101 : decode cX8_bar 101 = .ok (.iconst 0, 1) := by decide +kernel
theorem dX8_bar_102 : decode cX8_bar 102 = .ok (.if_icmp .ne 7, 3) := by decide +kernel
theorem dX8_bar_105 : decode cX8_bar 105 = .ok (.iconst 1, 1) := by decide +kernel
theorem dX8_bar_106 : decode cX8_bar 106 = .ok (.goto 4, 3) := by decide +kernel
theorem dX8_bar_109 : decode cX8_bar 109 = .ok (.iconst 0, 1) := by decide +kernel
theorem dX8_bar_110 : decode cX8_bar 110 = .ok (.istore 5, 2) := by decide +kernel
theorem dX8_bar_112 : decode cX8_bar 112 = .ok (.iinc 7 2, 3) := by decide +kernel
theorem dX8_bar_115 : decode cX8_bar 115 = .ok (.goto (-54), 3) := by decide +kernel
theorem dX8_bar_118 : decode cX8_bar 118 = .ok (.iinc 6 1, 3) := by decide +kernel
theorem dX8_bar_121 : decode cX8_bar 121 = .ok (.goto (-69), 3) := by decide +kernel
theorem dX8_bar_124 : decode cX8_bar 124 = .ok (.iload 5, 2) := by decide +kernel
theorem dX8_bar_126 : decode cX8_bar 126 = .ok (.ifCond .eq 6, 3) := by decide +kernel
theorem dX8_bar_129 : decode cX8_bar 129 = .ok (.iload 4, 2) := by decide +kernel
theorem dX8_bar_131 : decode cX8_bar 131 = .ok (.ireturn, 1) := by decide +kernel
theorem dX8_bar_132 : decode cX8_bar 132 = .ok (.iinc 4 1, 3) := by decide +kernel
theorem dX8_bar_135 : decode cX8_bar 135 = .ok (.goto (-95), 3) := by decide +kernel
theorem dX8_bar_138 : decode cX8_bar 138 = .ok (.iconst (-1), 1) := by decide +kernel
theorem dX8_bar_139 : decode cX8_bar 139 = .ok (.ireturn, 1) := by decide +kernel
theorem dX8_count_0 : decode cX8_count 0 = .ok (.iconst 0, 1) := by decide +kernel
theorem dX8_count_1 : decode cX8_count 1 = .ok (.istore_n 2, 1) := by decide +kernel
theorem dX8_count_2 : decode cX8_count 2 = .ok (.iconst 0, 1) := by decide +kernel
theorem dX8_count_3 : decode cX8_count 3 = .ok (.istore_n 3, 1) := by decide +kernel
theorem dX8_count_4 : decode cX8_count 4 = .ok (.iload_n 3, 1) := by decide +kernel
theorem dX8_count_5 : decode cX8_count 5 = .ok (.aload_n 0, 1) := by decide +kernel
theorem dX8_count_6 : decode cX8_count 6 = .ok (.getfield 304, 3) := by decide +kernel
theorem dX8_count_9 : decode cX8_count 9 = .ok (.if_icmp .ge 26, 3) := by decide +kernel
theorem dX8_count_12 : decode cX8_count 12 = .ok (.iload_n 2, 1) := by decide +kernel
theorem dX8_count_13 : decode cX8_count 13 = .ok (.aload_n 0, 1) := by decide +kernel
theorem dX8_count_14 : decode cX8_count 14 = .ok (.getfield 75, 3) := by decide +kernel
theorem dX8_count_17 : decode cX8_count 17 = .ok (.iload_n 3, 1) := by decide +kernel
theorem dX8_count_18 : decode cX8_count 18 = .ok (.baload, 1) := by decide +kernel
theorem dX8_count_19 : decode cX8_count 19 = .ok (.ifCond .eq 7, 3) := by decide +kernel
theorem dX8_count_22 : decode cX8_count 22 = .ok (.iconst 1, 1) := by decide +kernel
theorem dX8_count_23 : decode cX8_count 23 = .ok (.goto 4, 3) := by decide +kernel
theorem dX8_count_26 : decode cX8_count 26 = .ok (.iconst 0, 1) := by decide +kernel
theorem dX8_count_27 : decode cX8_count 27 = .ok (.iadd, 1) := by decide +kernel
theorem dX8_count_28 : decode cX8_count 28 = .ok (.istore_n 2, 1) := by decide +kernel
theorem dX8_count_29 : decode cX8_count 29 = .ok (.iinc 3 1, 3) := by decide +kernel
theorem dX8_count_32 : decode cX8_count 32 = .ok (.goto (-28), 3) := by decide +kernel
theorem dX8_count_35 : decode cX8_count 35 = .ok (.iload_n 1, 1) := by decide +kernel
theorem dX8_count_36 : decode cX8_count 36 = .ok (.tableswitch 58 0 4 #[36, 41, 46, 48, 53], 36) := by decide +kernel
theorem dX8_count_72 : decode cX8_count 72 = .ok (.aload_n 0, 1) := by decide +kernel
theorem dX8_count_73 : decode cX8_count 73 = .ok (.getfield 276, 3) := by decide +kernel
theorem dX8_count_76 : decode cX8_count 76 = .ok (.ireturn, 1) := by decide +kernel
theorem dX8_count_77 : decode cX8_count 77 = .ok (.aload_n 0, 1) := by decide +kernel
theorem dX8_count_78 : decode cX8_count 78 = .ok (.getfield 304, 3) := by decide +kernel
theorem dX8_count_81 : decode cX8_count 81 = .ok (.ireturn, 1) := by decide +kernel
theorem dX8_count_82 : decode cX8_count 82 = .ok (.iload_n 2, 1) := by decide +kernel
theorem dX8_count_83 : decode cX8_count 83 = .ok (.ireturn, 1) := by decide +kernel
theorem dX8_count_84 : decode cX8_count 84 = .ok (.aload_n 0, 1) := by decide +kernel
theorem dX8_count_85 : decode cX8_count 85 = .ok (.getfield 315, 3) := by decide +kernel
theorem dX8_count_88 : decode cX8_count 88 = .ok (.ireturn, 1) := by decide +kernel
theorem dX8_count_89 : decode cX8_count 89 = .ok (.aload_n 0, 1) := by decide +kernel
theorem dX8_count_90 : decode cX8_count 90 = .ok (.getfield 113, 3) := by decide +kernel
theorem dX8_count_93 : decode cX8_count 93 = .ok (.ireturn, 1) := by decide +kernel
theorem dX8_count_94 : decode cX8_count 94 = .ok (.sipush (-1002), 3) := by decide +kernel
theorem dX8_count_97 : decode cX8_count 97 = .ok (.ireturn, 1) := by decide +kernel
set_option maxHeartbeats 4000000 in
set_option maxRecDepth 100000 in
theorem m_count (l : Launch) (D : va_G) (k : Nat → ClassId) (st : Nat → Nat) (lo : Nat) (a : Nat → Nat) (tx : Nat) (t0 : Nat) (we : Nat) (rd : Nat) (ru : Nat) (rw : Nat) (ca : Nat) (fp : Int32) (wd : Int64) (nu : Int32) (na : Int32) (ts : Int32) (df : Int32) (db : Int32) (sd : Int32) (frow : Nat → Int32) (p0 : Int32) (hrw : rw ≤ 24) : CRi l D k st lo yX8_count cX8_count 4 (some .int) ({ frames := 0, cells := 0, slots := 0, locals := 0 }) [.ref (a 0), .int p0] [((a 0), .inr (8, (fX8 a (nI tx) fp (nI t0) wd (nI we) nu na (nI rd) ts (nI ru) (nI rw) (nI ca) df db sd))), (aZ k (a 32) 24 frow)] (fun r => True) := by
  intro sz
  refine Met.ofW (cc := cX8_count) (maxL := 4) (ret := (some .int)) (by decide) rfl ?_
  intro p e s m args below meth c s₁ B hml hv
  obtain ⟨rfl, hsz, hlo, hP, hK, hDL, hZ⟩ := hv
  have hx := B.exec
  have hb := B.bytes
  have hr := B.returns
  have hts := WS_ts B.pre
  have hown : s.vm.findClass RX8 = some m.cls := findClass_of_methodNamed B.named
  have hlocks := B.notSynchronized
  subst hsz
  have hA : ∀ q : Nat, s.heap.size ≤ q → (fun q : Nat => s.heap.size ≤ q) q := fun _ h => h
  have hAlo : ∀ q : Nat, (fun q : Nat => s.heap.size ≤ q) q → lo ≤ q := fun q h => Nat.le_trans hlo h
  have hS : va_S (fun q : Nat => s.heap.size ≤ q) s.heap s.heap [] := va_S.rf
  have hl := lv_entry ([.ref (a 0), .int p0]) (n := 4) (Nat.le_of_ble_eq_true rfl)
  rw [lg_entry_eq]
  generalize (lg_sl ([.ref (a 0), .int p0]) ++ List.replicate (4 - (lg_sl ([.ref (a 0), .int p0])).length) Slot.unset).toArray = ls at hl ⊢
  have hl : lv_has ls 4 [(0, .ref (a 0)), (1, .int p0)] := hl
  refine lv_iconst (v := 0) hx hb dX8_count_0 (by decide) ?_
  refine lv_istore_n (lv' := [(2, .int 0), (0, .ref (a 0)), (1, .int p0)]) hx hb dX8_count_1 rfl hl (by decide) rfl (fun ls hl => ?_)
  refine lv_iconst (v := 0) hx hb dX8_count_2 (by decide) ?_
  refine lv_istore_n (lv' := [(3, .int 0), (2, .int 0), (0, .ref (a 0)), (1, .int p0)]) hx hb dX8_count_3 rfl hl (by decide) rfl (fun ls hl => ?_)
  refine W_loop (σ := Nat × Int32) (fun (n_ : Nat) (x_ : Nat × Int32) (H : Heap) (locs : List Loc) (ls : Array Slot) => match x_ with | (ii_1, fr_1) => n_ = rw - ii_1 ∧ (ii_1 ≤ rw) ∧ va_P D classes [((a 0), .inr (8, (fX8 a (nI tx) fp (nI t0) wd (nI we) nu na (nI rd) ts (nI ru) (nI rw) (nI ca) df db sd))), (aZ k (a 32) 24 frow)] H ∧ va_S (fun q : Nat => s.heap.size ≤ q) s.heap H locs ∧ lv_has ls 4 [(3, .int (nI ii_1)), (2, .int fr_1), (0, .ref (a 0)), (1, .int p0)]) (fun n_1 x_1 H locs ls hI ih_1 => ?_) _ (0, 0) ⟨rfl, (by omega), hP, hS, (lv_sub hl [0, 1, 2, 3] rfl)⟩
  obtain ⟨ii_1, fr_1⟩ := x_1
  obtain ⟨hm_1, hv_1, hP, hS, hl⟩ := hI
  subst hm_1
  refine lv_iload_n hx hb dX8_count_4 rfl (lv_at hl 0 rfl) ?_
  refine lv_aload_n hx hb dX8_count_5 rfl (lv_at hl 2 rfl) ?_
  refine va_get (D := D) (ci := 8) (v := .int (nI rw)) (C := RX8) (T := TX8) (N := 44) hx hb hts inX8 hown hK hP 0 rfl rfl 30 (by decide) (hts _ tw_1003) (fun _ h9 => h9) rfl dX8_count_6 ?_
  refine lv_icmp_ge (tgt := 35) hx hb dX8_count_9 (by decide) (fun c_2 => ?_) (fun c_2 => ?_)
  · have c_2 := (nI_leI (a := rw) (b := ii_1) (by omega) (by omega)).mp c_2
    refine lv_iload_n hx hb dX8_count_35 rfl (lv_at hl 3 rfl) ?_
    rcases sw5 p0 with rfl | rfl | rfl | rfl | rfl | hsw_3
    · refine lv_tableIn (tgt := 72) hx hb dX8_count_36 (by decide) (by decide) rfl (by decide) ?_
      refine lv_aload_n hx hb dX8_count_72 rfl (lv_at hl 2 rfl) ?_
      refine va_get (D := D) (ci := 8) (v := .int (nI ru)) (C := RX8) (T := TX8) (N := 44) hx hb hts inX8 hown hK hP 0 rfl rfl 23 (by decide) (hts _ tw_996) (fun _ h9 => h9) rfl dX8_count_73 ?_
      exact W.iret (v := (nI ru)) hx hb hr (fun t ht hW => ⟨⟨(nI ru), (), rfl, trivial, trivial⟩, hS.F ht⟩) hS.2.2 dX8_count_76
    · refine lv_tableIn (tgt := 77) hx hb dX8_count_36 (by decide) (by decide) rfl (by decide) ?_
      refine lv_aload_n hx hb dX8_count_77 rfl (lv_at hl 2 rfl) ?_
      refine va_get (D := D) (ci := 8) (v := .int (nI rw)) (C := RX8) (T := TX8) (N := 44) hx hb hts inX8 hown hK hP 0 rfl rfl 30 (by decide) (hts _ tw_1003) (fun _ h9 => h9) rfl dX8_count_78 ?_
      exact W.iret (v := (nI rw)) hx hb hr (fun t ht hW => ⟨⟨(nI rw), (), rfl, trivial, trivial⟩, hS.F ht⟩) hS.2.2 dX8_count_81
    · refine lv_tableIn (tgt := 82) hx hb dX8_count_36 (by decide) (by decide) rfl (by decide) ?_
      refine lv_iload_n hx hb dX8_count_82 rfl (lv_at hl 1 rfl) ?_
      exact W.iret (v := fr_1) hx hb hr (fun t ht hW => ⟨⟨fr_1, (), rfl, trivial, trivial⟩, hS.F ht⟩) hS.2.2 dX8_count_83
    · refine lv_tableIn (tgt := 84) hx hb dX8_count_36 (by decide) (by decide) rfl (by decide) ?_
      refine lv_aload_n hx hb dX8_count_84 rfl (lv_at hl 2 rfl) ?_
      refine va_get (D := D) (ci := 8) (v := .int (nI ca)) (C := RX8) (T := TX8) (N := 44) hx hb hts inX8 hown hK hP 0 rfl rfl 34 (by decide) (hts _ tw_1007) (fun _ h9 => h9) rfl dX8_count_85 ?_
      exact W.iret (v := (nI ca)) hx hb hr (fun t ht hW => ⟨⟨(nI ca), (), rfl, trivial, trivial⟩, hS.F ht⟩) hS.2.2 dX8_count_88
    · refine lv_tableIn (tgt := 89) hx hb dX8_count_36 (by decide) (by decide) rfl (by decide) ?_
      refine lv_aload_n hx hb dX8_count_89 rfl (lv_at hl 2 rfl) ?_
      refine va_get (D := D) (ci := 8) (v := .int (nI tx)) (C := RX8) (T := TX8) (N := 44) hx hb hts inX8 hown hK hP 0 rfl rfl 5 (by decide) (hts _ tw_978) (fun _ h9 => h9) rfl dX8_count_90 ?_
      exact W.iret (v := (nI tx)) hx hb hr (fun t ht hW => ⟨⟨(nI tx), (), rfl, trivial, trivial⟩, hS.F ht⟩) hS.2.2 dX8_count_93
    · refine lv_tableOut (tgt := 94) hx hb dX8_count_36 hsw_3 (by decide) ?_
      refine lv_sipush (v := (-1002)) hx hb dX8_count_94 (by decide) ?_
      exact W.iret (v := (-1002)) hx hb hr (fun t ht hW => ⟨⟨(-1002), (), rfl, trivial, trivial⟩, hS.F ht⟩) hS.2.2 dX8_count_97
  · have c_2 : ¬ (rw ≤ ii_1) := fun h => c_2 ((nI_leI (a := rw) (b := ii_1) (by omega) (by omega)).mpr h)
    refine lv_iload_n hx hb dX8_count_12 rfl (lv_at hl 1 rfl) ?_
    refine lv_aload_n hx hb dX8_count_13 rfl (lv_at hl 2 rfl) ?_
    refine va_get (D := D) (ci := 8) (v := .ref (a 32)) (C := RX8) (T := TX8) (N := 44) hx hb hts inX8 hown hK hP 0 rfl rfl 31 (by decide) (hts _ tw_1004) (fun _ h9 => h9) rfl dX8_count_14 ?_
    refine lv_iload_n hx hb dX8_count_17 rfl (lv_at hl 0 rfl) ?_
    refine va_zald hx hb hK hP 1 2 rfl rfl (vp_in_nI (by omega) (by decide)) dX8_count_18 ?_
    refine lv_ti (y := (frow ii_1)) (by rw [nI_clamp (by omega)]) ?_
    refine lv_if_eq (tgt := 26) hx hb dX8_count_19 (by decide) (fun c_4 => ?_) (fun c_4 => ?_)
    · refine lv_iconst (v := 0) hx hb dX8_count_26 (by decide) ?_
      refine lv_iadd hx hb dX8_count_27 ?_
      refine lv_topi (fun x_5 ex_5 => ?_)
      refine lv_istore_n (lv' := [(2, .int x_5), (3, .int (nI ii_1)), (0, .ref (a 0)), (1, .int p0)]) hx hb dX8_count_28 rfl hl (by decide) rfl (fun ls hl => ?_)
      refine lv_iinc (v := (nI (ii_1 + 1))) (lv' := [(3, .int (nI (ii_1 + 1))), (2, .int x_5), (0, .ref (a 0)), (1, .int p0)]) hx hb dX8_count_29 hl (k := 1) rfl (nI_add ii_1 1) (by decide) rfl (fun ls hl => ?_)
      refine lv_goto (tgt := 4) hx hb dX8_count_32 (by decide) ?_
      exact ih_1 _ (ii_1 + 1, x_5) _ _ _ (by omega) ⟨rfl, (by omega), hP, hS, (lv_sub hl [0, 1, 2, 3] rfl)⟩
    · refine lv_iconst (v := 1) hx hb dX8_count_22 (by decide) ?_
      refine lv_goto (tgt := 27) hx hb dX8_count_23 (by decide) ?_
      refine lv_iadd hx hb dX8_count_27 ?_
      refine lv_topi (fun x_6 ex_6 => ?_)
      refine lv_istore_n (lv' := [(2, .int x_6), (3, .int (nI ii_1)), (0, .ref (a 0)), (1, .int p0)]) hx hb dX8_count_28 rfl hl (by decide) rfl (fun ls hl => ?_)
      refine lv_iinc (v := (nI (ii_1 + 1))) (lv' := [(3, .int (nI (ii_1 + 1))), (2, .int x_6), (0, .ref (a 0)), (1, .int p0)]) hx hb dX8_count_29 hl (k := 1) rfl (nI_add ii_1 1) (by decide) rfl (fun ls hl => ?_)
      refine lv_goto (tgt := 4) hx hb dX8_count_32 (by decide) ?_
      exact ih_1 _ (ii_1 + 1, x_6) _ _ _ (by omega) ⟨rfl, (by omega), hP, hS, (lv_sub hl [0, 1, 2, 3] rfl)⟩

theorem f_m_feed_rows : True := trivial
theorem dX8_feed_0 : decode cX8_feed 0 = .ok (.iload_n 1, 1) := by decide +kernel
theorem dX8_feed_1 : decode cX8_feed 1 = .ok (.i2l, 1) := by decide +kernel
theorem dX8_feed_2 : decode cX8_feed 2 = .ok (.lconst 1, 1) := by decide +kernel
theorem dX8_feed_3 : decode cX8_feed 3 = .ok (.ldc2_w 111, 3) := by decide +kernel
theorem dX8_feed_6 : decode cX8_feed 6 = .ok (.invokestatic 107, 3) := by decide +kernel
theorem dX8_feed_9 : decode cX8_feed 9 = .ok (.ifCond .ne 7, 3) := by decide +kernel
theorem dX8_feed_12 : decode cX8_feed 12 = .ok (.sipush (-1002), 3) := by decide +kernel
theorem dX8_feed_15 : decode cX8_feed 15 = .ok (.ireturn, 1) := by decide +kernel
theorem dX8_feed_16 : decode cX8_feed 16 = .ok (.aload_n 0, 1) := by decide +kernel
theorem dX8_feed_17 : decode cX8_feed 17 = .ok (.getfield 113, 3) := by decide +kernel
theorem dX8_feed_20 : decode cX8_feed 20 = .ok (.iload_n 1, 1) := by decide +kernel
theorem dX8_feed_21 : decode cX8_feed 21 = .ok (.iadd, 1) := by decide +kernel
theorem dX8_feed_22 : decode cX8_feed 22 = .ok (.sipush 240, 3) := by decide +kernel
theorem dX8_feed_25 : decode cX8_feed 25 = .ok (.if_icmp .le 7, 3) := by decide +kernel
theorem dX8_feed_28 : decode cX8_feed 28 = .ok (.sipush (-1004), 3) := by decide +kernel
theorem dX8_feed_31 : decode cX8_feed 31 = .ok (.ireturn, 1) := by decide +kernel
theorem dX8_feed_32 : decode cX8_feed 32 = .ok (.iload_n 1, 1) := by decide +kernel
theorem dX8_feed_33 : decode cX8_feed 33 = .ok (.iconst 1, 1) := by decide +kernel
theorem dX8_feed_34 : decode cX8_feed 34 = .ok (.isub, 1) := by decide +kernel
theorem dX8_feed_35 : decode cX8_feed 35 = .ok (.istore 4, 2) := by decide +kernel
theorem dX8_feed_37 : decode cX8_feed 37 = .ok (.iload 4, 2) := by decide +kernel
theorem dX8_feed_39 : decode cX8_feed 39 = .ok (.ifCond .lt 40, 3) := by decide +kernel
theorem dX8_feed_42 : decode cX8_feed 42 = .ok (.aload_n 0, 1) := by decide +kernel
theorem dX8_feed_43 : decode cX8_feed 43 = .ok (.getfield 22, 3) := by decide +kernel
theorem dX8_feed_46 : decode cX8_feed 46 = .ok (.aload_n 0, 1) := by decide +kernel
theorem dX8_feed_47 : decode cX8_feed 47 = .ok (.getfield 113, 3) := by decide +kernel
theorem dX8_feed_50 : decode cX8_feed 50 = .ok (.lload_n 2, 1) := by decide +kernel
theorem dX8_feed_51 : decode cX8_feed 51 = .ok (.bipush 8, 2) := by decide +kernel
theorem dX8_feed_53 : decode cX8_feed 53 = .ok (.iload 4, 2) := by decide +kernel
theorem dX8_feed_55 : decode cX8_feed 55 = .ok (.imul, 1) := by decide +kernel
theorem dX8_feed_56 : decode cX8_feed 56 = .ok (.lshr, 1) := by decide +kernel
theorem dX8_feed_57 : decode cX8_feed 57 = .ok (.ldc2_w 116, 3) := by decide +kernel
theorem dX8_feed_60 : decode cX8_feed 60 = .ok (.land, 1) := by decide +kernel
theorem dX8_feed_61 : decode cX8_feed 61 = .ok (.l2i, 1) := by decide +kernel
theorem dX8_feed_62 : decode cX8_feed 62 = .ok (.iastore, 1) := by decide +kernel
theorem dX8_feed_63 : decode cX8_feed 63 = .ok (.aload_n 0, 1) := by decide +kernel
theorem dX8_feed_64 : decode cX8_feed 64 = .ok (.dup, 1) := by decide +kernel
theorem dX8_feed_65 : decode cX8_feed 65 = .ok (.getfield 113, 3) := by decide +kernel
theorem dX8_feed_68 : decode cX8_feed 68 = .ok (.iconst 1, 1) := by decide +kernel
theorem dX8_feed_69 : decode cX8_feed 69 = .ok (.iadd, 1) := by decide +kernel
theorem dX8_feed_70 : decode cX8_feed 70 = .ok (.putfield 113, 3) := by decide +kernel
theorem dX8_feed_73 : decode cX8_feed 73 = .ok (.iinc 4 (-1), 3) := by decide +kernel
theorem dX8_feed_76 : decode cX8_feed 76 = .ok (.goto (-39), 3) := by decide +kernel
theorem dX8_feed_79 : decode cX8_feed 79 = .ok (.aload_n 0, 1) := by decide +kernel
theorem dX8_feed_80 : decode cX8_feed 80 = .ok (.getfield 113, 3) := by decide +kernel
theorem dX8_feed_83 : decode cX8_feed 83 = .ok (.ireturn, 1) := by decide +kernel
theorem dX8_judge_0 : decode cX8_judge 0 = .ok (.aload_n 0, 1) := by decide +kernel
theorem dX8_judge_1 : decode cX8_judge 1 = .ok (.iload_n 1, 1) := by decide +kernel
theorem dX8_judge_2 : decode cX8_judge 2 = .ok (.invokevirtual 206, 3) := by decide +kernel
theorem dX8_judge_5 : decode cX8_judge 5 = .ok (.ifCond .ne 7, 3) := by decide +kernel
theorem dX8_judge_8 : decode cX8_judge 8 = .ok (.sipush (-1001), 3) := by decide +kernel
theorem dX8_judge_11 : decode cX8_judge 11 = .ok (.ireturn, 1) := by decide +kernel
theorem dX8_judge_12 : decode cX8_judge 12 = .ok (.aload_n 0, 1) := by decide +kernel
theorem dX8_judge_13 : decode cX8_judge 13 = .ok (.iload_n 1, 1) := by decide +kernel
theorem dX8_judge_14 : decode cX8_judge 14 = .ok (.iload_n 2, 1) := by decide +kernel
theorem dX8_judge_15 : decode cX8_judge 15 = .ok (.invokevirtual 234, 3) := by decide +kernel
theorem dX8_judge_18 : decode cX8_judge 18 = .ok (.ifCond .ne 7, 3) := by decide +kernel
theorem dX8_judge_21 : decode cX8_judge 21 = .ok (.sipush (-1002), 3) := by decide +kernel
theorem dX8_judge_24 : decode cX8_judge 24 = .ok (.ireturn, 1) := by decide +kernel
theorem dX8_judge_25 : decode cX8_judge 25 = .ok (.aload_n 0, 1) := by decide +kernel
theorem dX8_judge_26 : decode cX8_judge 26 = .ok (.getfield 304, 3) := by decide +kernel
theorem dX8_judge_29 : decode cX8_judge 29 = .ok (.ifCond .eq 34, 3) := by decide +kernel
theorem dX8_judge_32 : decode cX8_judge 32 = .ok (.aload_n 0, 1) := by decide +kernel
theorem dX8_judge_33 : decode cX8_judge 33 = .ok (.getfield 304, 3) := by decide +kernel
theorem dX8_judge_36 : decode cX8_judge 36 = .ok (.aload_n 0, 1) := by decide +kernel
theorem dX8_judge_37 : decode cX8_judge 37 = .ok (.getfield 7, 3) := by decide +kernel
theorem dX8_judge_40 : decode cX8_judge 40 = .ok (.iload_n 1, 1) := by decide +kernel
theorem dX8_judge_41 : decode cX8_judge 41 = .ok (.iaload, 1) := by decide +kernel
theorem dX8_judge_42 : decode cX8_judge 42 = .ok (.if_icmp .gt 21, 3) := by decide +kernel
theorem dX8_judge_45 : decode cX8_judge 45 = .ok (.iload_n 3, 1) := by decide +kernel
theorem dX8_judge_46 : decode cX8_judge 46 = .ok (.ifCond .eq 21, 3) := by decide +kernel
theorem dX8_judge_49 : decode cX8_judge 49 = .ok (.aload_n 0, 1) := by decide +kernel
theorem dX8_judge_50 : decode cX8_judge 50 = .ok (.getfield 75, 3) := by decide +kernel
theorem dX8_judge_53 : decode cX8_judge 53 = .ok (.aload_n 0, 1) := by decide +kernel
theorem dX8_judge_54 : decode cX8_judge 54 = .ok (.getfield 304, 3) := by decide +kernel
theorem dX8_judge_57 : decode cX8_judge 57 = .ok (.iconst 1, 1) := by decide +kernel
theorem dX8_judge_58 : decode cX8_judge 58 = .ok (.isub, 1) := by decide +kernel
theorem dX8_judge_59 : decode cX8_judge 59 = .ok (.baload, 1) := by decide +kernel
theorem dX8_judge_60 : decode cX8_judge 60 = .ok (.ifCond .ne 7, 3) := by decide +kernel
theorem dX8_judge_63 : decode cX8_judge 63 = .ok (.sipush (-1003), 3) := by decide +kernel
theorem dX8_judge_66 : decode cX8_judge 66 = .ok (.ireturn, 1) := by decide +kernel
theorem dX8_judge_67 : decode cX8_judge 67 = .ok (.aload_n 0, 1) := by decide +kernel
theorem dX8_judge_68 : decode cX8_judge 68 = .ok (.iload_n 1, 1) := by decide +kernel
theorem dX8_judge_69 : decode cX8_judge 69 = .ok (.invokevirtual 268, 3) := by decide +kernel
theorem dX8_judge_72 : decode cX8_judge 72 = .ok (.iconst 0, 1) := by decide +kernel
theorem dX8_judge_73 : decode cX8_judge 73 = .ok (.istore 4, 2) := by decide +kernel
theorem dX8_judge_75 : decode cX8_judge 75 = .ok (.iload 4, 2) := by decide +kernel
theorem dX8_judge_77 : decode cX8_judge 77 = .ok (.aload_n 0, 1) := by decide +kernel
theorem dX8_judge_78 : decode cX8_judge 78 = .ok (.getfield 304, 3) := by decide +kernel
theorem dX8_judge_81 : decode cX8_judge 81 = .ok (.if_icmp .ge 126, 3) := by decide +kernel
theorem dX8_judge_84 : decode cX8_judge 84 = .ok (.aload_n 0, 1) := by decide +kernel
theorem dX8_judge_85 : decode cX8_judge 85 = .ok (.getfield 75, 3) := by decide +kernel
theorem dX8_judge_88 : decode cX8_judge 88 = .ok (.iload 4, 2) := by decide +kernel
theorem dX8_judge_90 : decode cX8_judge 90 = .ok (.baload, 1) := by decide +kernel
theorem dX8_judge_91 : decode cX8_judge 91 = .ok (.ifCond .eq 110, 3) := by decide +kernel
theorem dX8_judge_94 : decode cX8_judge 94 = .ok (.iload 4, 2) := by decide +kernel
theorem dX8_judge_96 : decode cX8_judge 96 = .ok (.aload_n 0, 1) := by decide +kernel
theorem dX8_judge_97 : decode cX8_judge 97 = .ok (.iload_n 1, 1) := by decide +kernel
theorem dX8_judge_98 : decode cX8_judge 98 = .ok (.iload 4, 2) := by decide +kernel
theorem dX8_judge_100 : decode cX8_judge 100 = .ok (.invokevirtual 251, 3) := by decide +kernel
theorem dX8_judge_103 : decode cX8_judge 103 = .ok (.iadd, 1) := by decide +kernel
theorem dX8_judge_104 : decode cX8_judge 104 = .ok (.aload_n 0, 1) := by decide +kernel
theorem dX8_judge_105 : decode cX8_judge 105 = .ok (.getfield 304, 3) := by decide +kernel
theorem dX8_judge_108 : decode cX8_judge 108 = .ok (.if_icmp .gt 93, 3) := by decide +kernel
theorem dX8_judge_111 : decode cX8_judge 111 = .ok (.iconst 0, 1) := by decide +kernel
theorem dX8_judge_112 : decode cX8_judge 112 = .ok (.istore 5, 2) := by decide +kernel
theorem dX8_judge_114 : decode cX8_judge 114 = .ok (.iconst 0, 1) := by decide +kernel
theorem dX8_judge_115 : decode cX8_judge 115 = .ok (.istore 6, 2) := by decide +kernel
theorem dX8_judge_117 : decode cX8_judge 117 = .ok (.iload 6, 2) := by decide +kernel
theorem dX8_judge_119 : decode cX8_judge 119 = .ok (.aload_n 0, 1) := by decide +kernel
theorem dX8_judge_120 : decode cX8_judge 120 = .ok (.iload_n 1, 1) := by decide +kernel
theorem dX8_judge_121 : decode cX8_judge 121 = .ok (.iload 4, 2) := by decide +kernel
theorem dX8_judge_123 : decode cX8_judge 123 = .ok (.invokevirtual 251, 3) := by decide +kernel
theorem dX8_judge_126 : decode cX8_judge 126 = .ok (.if_icmp .ge 35, 3) := by decide +kernel
theorem dX8_judge_129 : decode cX8_judge 129 = .ok (.iload 5, 2) := by decide +kernel
theorem dX8_judge_131 : decode cX8_judge 131 = .ok (.aload_n 0, 1) := by decide +kernel
theorem dX8_judge_132 : decode cX8_judge 132 = .ok (.getfield 75, 3) := by decide +kernel
theorem dX8_judge_135 : decode cX8_judge 135 = .ok (.iload 4, 2) := by decide +kernel
theorem dX8_judge_137 : decode cX8_judge 137 = .ok (.iload 6, 2) := by decide +kernel
theorem dX8_judge_139 : decode cX8_judge 139 = .ok (.iadd, 1) := by decide +kernel
theorem dX8_judge_140 : decode cX8_judge 140 = .ok (.baload, 1) := by decide +kernel
theorem dX8_judge_141 : decode cX8_judge 141 = .ok (.ifCond .eq 10, 3) := by decide +kernel
theorem dX8_judge_144 : decode cX8_judge 144 = .ok (.iconst 1, 1) := by decide +kernel
theorem dX8_judge_145 : decode cX8_judge 145 = .ok (.iload 6, 2) := by decide +kernel
theorem dX8_judge_147 : decode cX8_judge 147 = .ok (.ishl, 1) := by decide +kernel
theorem dX8_judge_148 : decode cX8_judge 148 = .ok (.goto 4, 3) := by decide +kernel
theorem dX8_judge_151 : decode cX8_judge 151 = .ok (.iconst 0, 1) := by decide +kernel
theorem dX8_judge_152 : decode cX8_judge 152 = .ok (.ior, 1) := by decide +kernel
theorem dX8_judge_153 : decode cX8_judge 153 = .ok (.istore 5, 2) := by decide +kernel
theorem dX8_judge_155 : decode cX8_judge 155 = .ok (.iinc 6 1, 3) := by decide +kernel
theorem dX8_judge_158 : decode cX8_judge 158 = .ok (.goto (-41), 3) := by decide +kernel
theorem dX8_judge_161 : decode cX8_judge 161 = .ok (.iload_n 3, 1) := by decide +kernel
theorem dX8_judge_162 : decode cX8_judge 162 = .ok (.ifCond .eq 18, 3) := by decide +kernel
theorem dX8_judge_165 : decode cX8_judge 165 = .ok (.iload 4, 2) := by decide +kernel
theorem dX8_judge_167 : decode cX8_judge 167 = .ok (.aload_n 0, 1) := by decide +kernel
theorem dX8_judge_168 : decode cX8_judge 168 = .ok (.getfield 304, 3) := by decide +kernel
theorem dX8_judge_171 : decode cX8_judge 171 = .ok (.iconst 1, 1) := by decide +kernel
theorem dX8_judge_172 : decode cX8_judge 172 = .ok (.isub, 1) := by decide +kernel
theorem dX8_judge_173 : decode cX8_judge 173 = .ok (.if_icmp .ne 7, 3) := by decide +kernel
theorem dX8_judge_176 : decode cX8_judge 176 = .ok (.iconst 1, 1) := by decide +kernel
theorem dX8_judge_177 : decode cX8_judge 177 = .ok (.goto 4, 3) := by decide +kernel
theorem dX8_judge_180 : decode cX8_judge 180 = .ok (.iconst 0, 1) := by decide +kernel
theorem dX8_judge_181 : decode cX8_judge 181 = .ok (.istore 6, 2) := by decide +kernel
theorem dX8_judge_183 : decode cX8_judge 183 = .ok (.aload_n 0, 1) := by decide +kernel
theorem dX8_judge_184 : decode cX8_judge 184 = .ok (.iload_n 1, 1) := by decide +kernel
theorem dX8_judge_185 : decode cX8_judge 185 = .ok (.iload_n 2, 1) := by decide +kernel
theorem dX8_judge_186 : decode cX8_judge 186 = .ok (.iload 4, 2) := by decide +kernel
theorem dX8_judge_188 : decode cX8_judge 188 = .ok (.iload 5, 2) := by decide +kernel
theorem dX8_judge_190 : decode cX8_judge 190 = .ok (.invokevirtual 272, 3) := by decide +kernel
theorem dX8_judge_193 : decode cX8_judge 193 = .ok (.iload 6, 2) := by decide +kernel
theorem dX8_judge_195 : decode cX8_judge 195 = .ok (.if_icmp .eq 6, 3) := by decide +kernel
theorem dX8_judge_198 : decode cX8_judge 198 = .ok (.iload 4, 2) := by decide +kernel
theorem dX8_judge_200 : decode cX8_judge 200 = .ok (.ireturn, 1) := by decide +kernel
theorem dX8_judge_201 : decode cX8_judge 201 = .ok (.iinc 4 1, 3) := by decide +kernel
theorem dX8_judge_204 : decode cX8_judge 204 = .ok (.goto (-129), 3) := by decide +kernel
theorem dX8_judge_207 : decode cX8_judge 207 = .ok (.iconst (-1), 1) := by decide +kernel
theorem dX8_judge_208 : decode cX8_judge 208 = .ok (.ireturn, 1) := by decide +kernel
set_option maxHeartbeats 4000000 in
set_option maxRecDepth 100000 in
theorem m_judge (l : Launch) (D : va_G) (k : Nat → ClassId) (st : Nat → Nat) (lo : Nat) (a : Nat → Nat) (tx : Nat) (t0 : Nat) (we : Nat) (rd : Nat) (ru : Nat) (rw : Nat) (ca : Nat) (fp : Int32) (wd : Int64) (nu : Int32) (na : Int32) (ts : Int32) (df : Int32) (db : Int32) (sd : Int32) (dn : Nat → Nat) (se : Nat → Nat) (tm : Nat → Nat) (gs : Nat → Int32) (ffrees : Nat → Int32) (fprices : Nat → Int32) (frow : Nat → Int32) (fons : Nat → Int32) (fworths : Nat → Int32) (fstarts : Nat → Int32) (fends : Nat → Int32) (fgoesRound : Nat → Int32) (fbegin : Nat → Int32) (p0 : Int32) (p1 : Int32) (p2 : Int32) (hdn : ∀ j, dn j ≤ 24) (hse : ∀ j, se j ≤ 2) (htm : ∀ j, tm j ≤ 3) (hrw : rw ≤ 24) : CWi l D k st lo yX8_judge cX8_judge 7 (some .int) ({ frames := 6, cells := 0, slots := 0, locals := 144 }) 0 0 [.ref (a 0), .int p0, .int p1, .int p2] [((a 0), .inr (8, (fX8 a (nI tx) fp (nI t0) wd (nI we) nu na (nI rd) ts (nI ru) (nI rw) (nI ca) df db sd))), (aI k (a 1) 3 (nF dn)), (aI k (a 4) 27 (sg se tm gs)), (aI k (a 2) 72 ffrees), (aI k (a 3) 72 fprices), (aZ k (a 32) 24 frow), (aI k (a 18) 768 fons), (aI k (a 19) 768 fworths), (aI k (a 20) 5 fstarts), (aI k (a 21) 4 fends), (aZ k (a 22) 4 fgoesRound), (aI k (a 23) 8 fbegin)] (fun (r : Int32) (u : (Nat → Int32) × (Nat → Int32) × (Nat → Int32) × (Nat → Int32) × (Nat → Int32) × (Nat → Int32)) => match u with | (fons_, fworths_, fstarts_, fends_, fgoesRound_, fbegin_) => True) (fun (u : (Nat → Int32) × (Nat → Int32) × (Nat → Int32) × (Nat → Int32) × (Nat → Int32) × (Nat → Int32)) => match u with | (fons_, fworths_, fstarts_, fends_, fgoesRound_, fbegin_) => [((a 0), .inr (8, (fX8 a (nI tx) fp (nI t0) wd (nI we) nu na (nI rd) ts (nI ru) (nI rw) (nI ca) df db sd))), (aI k (a 1) 3 (nF dn)), (aI k (a 4) 27 (sg se tm gs)), (aI k (a 2) 72 ffrees), (aI k (a 3) 72 fprices), (aZ k (a 32) 24 frow), (aI k (a 18) 768 fons_), (aI k (a 19) 768 fworths_), (aI k (a 20) 5 fstarts_), (aI k (a 21) 4 fends_), (aZ k (a 22) 4 fgoesRound_), (aI k (a 23) 8 fbegin_)]) := by
  intro sz
  refine Met.ofW (cc := cX8_judge) (maxL := 7) (ret := (some .int)) (by decide) rfl ?_
  intro p e s m args below meth c s₁ B hml hv
  obtain ⟨rfl, hsz, hlo, hP, hK, hDL, hZ⟩ := hv
  have hx := B.exec
  have hb := B.bytes
  have hr := B.returns
  have hts := WS_ts B.pre
  have hown : s.vm.findClass RX8 = some m.cls := findClass_of_methodNamed B.named
  have hlocks := B.notSynchronized
  subst hsz
  have hD := hDL.self (sz := s.heap.size)
  have hAlo := A_lo hDL hlo
  generalize hAe : va_A [((a 0), .inr (8, (fX8 a (nI tx) fp (nI t0) wd (nI we) nu na (nI rd) ts (nI ru) (nI rw) (nI ca) df db sd))), (aI k (a 1) 3 (nF dn)), (aI k (a 4) 27 (sg se tm gs)), (aI k (a 2) 72 ffrees), (aI k (a 3) 72 fprices), (aZ k (a 32) 24 frow), (aI k (a 18) 768 fons), (aI k (a 19) 768 fworths), (aI k (a 20) 5 fstarts), (aI k (a 21) 4 fends), (aZ k (a 22) 4 fgoesRound), (aI k (a 23) 8 fbegin)] s.heap.size = A at hD hAlo ⊢
  have hA : ∀ q : Nat, s.heap.size ≤ q → A q := fun q h => by rw [← hAe]; exact Or.inr h
  have hS : va_S A s.heap s.heap [] := va_S.rf
  have hl := lv_entry ([.ref (a 0), .int p0, .int p1, .int p2]) (n := 7) (Nat.le_of_ble_eq_true rfl)
  rw [lg_entry_eq]
  generalize (lg_sl ([.ref (a 0), .int p0, .int p1, .int p2]) ++ List.replicate (7 - (lg_sl ([.ref (a 0), .int p0, .int p1, .int p2])).length) Slot.unset).toArray = ls at hl ⊢
  have hl : lv_has ls 7 [(0, .ref (a 0)), (1, .int p0), (2, .int p1), (3, .int p2)] := hl
  refine lv_aload_n hx hb dX8_judge_0 rfl (lv_at hl 0 rfl) ?_
  refine lv_iload_n hx hb dX8_judge_1 rfl (lv_at hl 1 rfl) ?_
  refine ro_i (D := D) (va_runV (As := [.int p0]) (rest := []) ⟨hx, hb, hml, hown, hts⟩ ((m_isStreet l D k st lo a tx t0 we rd ru rw ca fp wd nu na ts df db sd dn p0 hdn) s.heap.size) (cwV 1 hts (gV tw_1189 tw_1191 tw_38 tw_87 tw_1192) rfl rfl rfl (by decide +kernel) ⟨Nat.le_of_ble_eq_true rfl, Nat.le_of_ble_eq_true rfl⟩) (pV hS hAlo hlo hP hK (va_Dlo hD hAlo) hZ [0, 1] (by decide) rfl (ci := 8) (q := (RX8, TX8, 44)) (q0 := 0) rfl rfl) rfl rfl hl.1 rfl (lv_room (Nat.le_of_ble_eq_true rfl)) dX8_judge_2 ⟨Nat.le_of_ble_eq_true rfl, Nat.le_of_ble_eq_true rfl⟩) hS hA hP (fun r_1 H locs hw_1 hP hS => ?_)
  try dsimp only at hw_1
  rcases hw_1 with ⟨rfl, j_2, hj_2, rfl, hw_1⟩ | rfl
  · have hdj_2 := hdn j_2
    have htj_2 := htm j_2
    refine lv_if_ne (tgt := 12) hx hb dX8_judge_5 (by decide) (fun _ => ?_) (fun h => absurd h (by decide))
    refine lv_aload_n hx hb dX8_judge_12 rfl (lv_at hl 0 rfl) ?_
    refine lv_iload_n hx hb dX8_judge_13 rfl (lv_at hl 1 rfl) ?_
    refine lv_iload_n hx hb dX8_judge_14 rfl (lv_at hl 2 rfl) ?_
    refine ro_i (D := D) (va_runV (As := [.int (nI j_2), .int p1]) (rest := []) ⟨hx, hb, hml, hown, hts⟩ ((m_isRound l D k st lo a tx t0 we rd ru rw ca fp wd nu na ts df db sd se tm gs j_2 p1 htm (by omega)) H.size) (cwV 2 hts (gV tw_1218 tw_1220 tw_42 tw_87 tw_1221) rfl rfl rfl (by decide +kernel) ⟨Nat.le_of_ble_eq_true rfl, Nat.le_of_ble_eq_true rfl⟩) (pV hS hAlo hlo hP hK (va_Dlo hD hAlo) hZ [0, 2] (by decide) rfl (ci := 8) (q := (RX8, TX8, 44)) (q0 := 0) rfl rfl) rfl rfl hl.1 rfl (lv_room (Nat.le_of_ble_eq_true rfl)) dX8_judge_15 ⟨Nat.le_of_ble_eq_true rfl, Nat.le_of_ble_eq_true rfl⟩) hS hA hP (fun r_3 H locs hw_3 hP hS => ?_)
    try dsimp only at hw_3
    rcases hw_3 with ⟨rfl, j_4, hj_4, rfl, hw_3⟩ | rfl
    · refine lv_if_ne (tgt := 25) hx hb dX8_judge_18 (by decide) (fun _ => ?_) (fun h => absurd h (by decide))
      refine lv_aload_n hx hb dX8_judge_25 rfl (lv_at hl 0 rfl) ?_
      refine va_get (D := D) (ci := 8) (v := .int (nI rw)) (C := RX8) (T := TX8) (N := 44) hx hb hts inX8 hown hK hP 0 rfl rfl 30 (by decide) (hts _ tw_1003) (fun _ h9 => h9) rfl dX8_judge_26 ?_
      refine lv_if_eq (tgt := 63) hx hb dX8_judge_29 (by decide) (fun c_5 => ?_) (fun c_5 => ?_)
      · have c_5 := (nI_eq (a := rw) (b := 0) (by omega) (by omega)).mp c_5
        refine lv_sipush (v := (-1003)) hx hb dX8_judge_63 (by decide) ?_
        have hP9 := hP.sub (ws' := [((a 0), .inr (8, (fX8 a (nI tx) fp (nI t0) wd (nI we) nu na (nI rd) ts (nI ru) (nI rw) (nI ca) df db sd))), (aI k (a 1) 3 (nF dn)), (aI k (a 4) 27 (sg se tm gs)), (aI k (a 2) 72 ffrees), (aI k (a 3) 72 fprices), (aZ k (a 32) 24 frow), (aI k (a 18) 768 fons), (aI k (a 19) 768 fworths), (aI k (a 20) 5 fstarts), (aI k (a 21) 4 fends), (aZ k (a 22) 4 fgoesRound), (aI k (a 23) 8 fbegin)]) [0, 1, 2, 3, 4, 5, 6, 7, 8, 9, 10, 11] rfl
        have hD9 := hD.sub (ws' := [((a 0), .inr (8, (fX8 a (nI tx) fp (nI t0) wd (nI we) nu na (nI rd) ts (nI ru) (nI rw) (nI ca) df db sd))), (aI k (a 1) 3 (nF dn)), (aI k (a 4) 27 (sg se tm gs)), (aI k (a 2) 72 ffrees), (aI k (a 3) 72 fprices), (aZ k (a 32) 24 frow), (aI k (a 18) 768 fons), (aI k (a 19) 768 fworths), (aI k (a 20) 5 fstarts), (aI k (a 21) 4 fends), (aZ k (a 22) 4 fgoesRound), (aI k (a 23) 8 fbegin)]) [0, 1, 2, 3, 4, 5, 6, 7, 8, 9, 10, 11] (by decide +kernel) rfl
        exact W.iret (v := (-1003)) hx hb hr (fun t ht hW => ⟨⟨(-1003), (fons, fworths, fstarts, fends, fgoesRound, fbegin), rfl, trivial, by rw [ht]; exact hP9, hD9⟩, hS.F ht⟩) hS.2.2 dX8_judge_66
      · have c_5 : ¬ (rw = 0) := fun h => c_5 ((nI_eq (a := rw) (b := 0) (by omega) (by omega)).mpr h)
        refine lv_aload_n hx hb dX8_judge_32 rfl (lv_at hl 0 rfl) ?_
        refine va_get (D := D) (ci := 8) (v := .int (nI rw)) (C := RX8) (T := TX8) (N := 44) hx hb hts inX8 hown hK hP 0 rfl rfl 30 (by decide) (hts _ tw_1003) (fun _ h9 => h9) rfl dX8_judge_33 ?_
        refine lv_aload_n hx hb dX8_judge_36 rfl (lv_at hl 0 rfl) ?_
        refine va_get (D := D) (ci := 8) (v := .ref (a 1)) (C := RX8) (T := TX8) (N := 44) hx hb hts inX8 hown hK hP 0 rfl rfl 0 (by decide) (hts _ tw_973) (fun _ h9 => h9) rfl dX8_judge_37 ?_
        refine lv_iload_n hx hb dX8_judge_40 rfl (lv_at hl 1 rfl) ?_
        refine va_iald hx hb hK hP 1 1 rfl rfl (vp_in_nI (by omega) (by decide)) dX8_judge_41 ?_
        refine lv_ti (y := (nI (dn j_2))) (by rw [nI_clamp (by omega)]; rfl) ?_
        refine lv_icmp_gt (tgt := 63) hx hb dX8_judge_42 (by decide) (fun c_6 => ?_) (fun c_6 => ?_)
        · have c_6 := (nI_ltI (a := (dn j_2)) (b := rw) (by omega) (by omega)).mp c_6
          refine lv_sipush (v := (-1003)) hx hb dX8_judge_63 (by decide) ?_
          have hP9 := hP.sub (ws' := [((a 0), .inr (8, (fX8 a (nI tx) fp (nI t0) wd (nI we) nu na (nI rd) ts (nI ru) (nI rw) (nI ca) df db sd))), (aI k (a 1) 3 (nF dn)), (aI k (a 4) 27 (sg se tm gs)), (aI k (a 2) 72 ffrees), (aI k (a 3) 72 fprices), (aZ k (a 32) 24 frow), (aI k (a 18) 768 fons), (aI k (a 19) 768 fworths), (aI k (a 20) 5 fstarts), (aI k (a 21) 4 fends), (aZ k (a 22) 4 fgoesRound), (aI k (a 23) 8 fbegin)]) [0, 1, 2, 3, 4, 5, 6, 7, 8, 9, 10, 11] rfl
          have hD9 := hD.sub (ws' := [((a 0), .inr (8, (fX8 a (nI tx) fp (nI t0) wd (nI we) nu na (nI rd) ts (nI ru) (nI rw) (nI ca) df db sd))), (aI k (a 1) 3 (nF dn)), (aI k (a 4) 27 (sg se tm gs)), (aI k (a 2) 72 ffrees), (aI k (a 3) 72 fprices), (aZ k (a 32) 24 frow), (aI k (a 18) 768 fons), (aI k (a 19) 768 fworths), (aI k (a 20) 5 fstarts), (aI k (a 21) 4 fends), (aZ k (a 22) 4 fgoesRound), (aI k (a 23) 8 fbegin)]) [0, 1, 2, 3, 4, 5, 6, 7, 8, 9, 10, 11] (by decide +kernel) rfl
          exact W.iret (v := (-1003)) hx hb hr (fun t ht hW => ⟨⟨(-1003), (fons, fworths, fstarts, fends, fgoesRound, fbegin), rfl, trivial, by rw [ht]; exact hP9, hD9⟩, hS.F ht⟩) hS.2.2 dX8_judge_66
        · have c_6 : ¬ ((dn j_2) < rw) := fun h => c_6 ((nI_ltI (a := (dn j_2)) (b := rw) (by omega) (by omega)).mpr h)
          refine lv_iload_n hx hb dX8_judge_45 rfl (lv_at hl 3 rfl) ?_
          refine lv_if_eq (tgt := 67) hx hb dX8_judge_46 (by decide) (fun c_7 => ?_) (fun c_7 => ?_)
          · refine lv_aload_n hx hb dX8_judge_67 rfl (lv_at hl 0 rfl) ?_
            refine lv_iload_n hx hb dX8_judge_68 rfl (lv_at hl 1 rfl) ?_
            refine rw_v (D := D) (wr := [(aZ k (a 32) 24 frow)]) (va_runV (As := [.int (nI j_2)]) (rest := []) ⟨hx, hb, hml, hown, hts⟩ ((m_findWay l D k st lo a tx t0 we rd ru rw ca fp wd nu na ts df db sd dn se tm gs ffrees fprices fons fworths fstarts fends fgoesRound fbegin j_2 hdn hse htm (by omega) (by omega)) H.size) (cwV 1 hts (gV tw_1250 tw_1252 tw_49 tw_87 tw_1253) rfl rfl rfl (by decide +kernel) ⟨Nat.le_of_ble_eq_true rfl, Nat.le_of_ble_eq_true rfl⟩) (pV hS hAlo hlo hP hK (va_Dlo hD hAlo) hZ [0, 1, 2, 3, 4, 6, 7, 8, 9, 10, 11] (by decide +kernel) rfl (ci := 8) (q := (RX8, TX8, 44)) (q0 := 0) rfl rfl) rfl rfl hl.1 rfl (lv_room (Nat.le_of_ble_eq_true rfl)) dX8_judge_69 ⟨Nat.le_of_ble_eq_true rfl, Nat.le_of_ble_eq_true rfl⟩) hS hA hP hD [0, 1, 2, 3, 4, 6, 7, 8, 9, 10, 11] [5] rfl rfl (by decide +kernel) (by decide +kernel) (fun u H locs hw_8 hP hD hS => ?_)
            obtain ⟨fons__8, fworths__8, fstarts__8, fends__8, fgoesRound__8, fbegin__8⟩ := u
            replace hP : va_P D classes [(aZ k (a 32) 24 frow), ((a 0), .inr (8, (fX8 a (nI tx) fp (nI t0) wd (nI we) nu na (nI rd) ts (nI ru) (nI rw) (nI ca) df db sd))), (aI k (a 1) 3 (nF dn)), (aI k (a 4) 27 (sg se tm gs)), (aI k (a 2) 72 ffrees), (aI k (a 3) 72 fprices), (aI k (a 18) 768 fons__8), (aI k (a 19) 768 fworths__8), (aI k (a 20) 5 fstarts__8), (aI k (a 21) 4 fends__8), (aZ k (a 22) 4 fgoesRound__8), (aI k (a 23) 8 fbegin__8)] H := hP
            replace hD : va_D A [(aZ k (a 32) 24 frow), ((a 0), .inr (8, (fX8 a (nI tx) fp (nI t0) wd (nI we) nu na (nI rd) ts (nI ru) (nI rw) (nI ca) df db sd))), (aI k (a 1) 3 (nF dn)), (aI k (a 4) 27 (sg se tm gs)), (aI k (a 2) 72 ffrees), (aI k (a 3) 72 fprices), (aI k (a 18) 768 fons__8), (aI k (a 19) 768 fworths__8), (aI k (a 20) 5 fstarts__8), (aI k (a 21) 4 fends__8), (aZ k (a 22) 4 fgoesRound__8), (aI k (a 23) 8 fbegin__8)] := hD
            try dsimp only at hw_8
            refine lv_iconst (v := 0) hx hb dX8_judge_72 (by decide) ?_
            refine lv_istore (lv' := [(4, .int 0), (0, .ref (a 0)), (1, .int (nI j_2)), (2, .int (nI j_4)), (3, .int p2)]) hx hb dX8_judge_73 hl (by decide) rfl (fun ls hl => ?_)
            refine W_loop (σ := Nat) (fun (n_ : Nat) (ii_9 : Nat) (H : Heap) (locs : List Loc) (ls : Array Slot) => n_ = rw - ii_9 ∧ (ii_9 ≤ rw) ∧ va_P D classes [(aZ k (a 32) 24 frow), ((a 0), .inr (8, (fX8 a (nI tx) fp (nI t0) wd (nI we) nu na (nI rd) ts (nI ru) (nI rw) (nI ca) df db sd))), (aI k (a 1) 3 (nF dn)), (aI k (a 4) 27 (sg se tm gs)), (aI k (a 2) 72 ffrees), (aI k (a 3) 72 fprices), (aI k (a 18) 768 fons__8), (aI k (a 19) 768 fworths__8), (aI k (a 20) 5 fstarts__8), (aI k (a 21) 4 fends__8), (aZ k (a 22) 4 fgoesRound__8), (aI k (a 23) 8 fbegin__8)] H ∧ va_D A [(aZ k (a 32) 24 frow), ((a 0), .inr (8, (fX8 a (nI tx) fp (nI t0) wd (nI we) nu na (nI rd) ts (nI ru) (nI rw) (nI ca) df db sd))), (aI k (a 1) 3 (nF dn)), (aI k (a 4) 27 (sg se tm gs)), (aI k (a 2) 72 ffrees), (aI k (a 3) 72 fprices), (aI k (a 18) 768 fons__8), (aI k (a 19) 768 fworths__8), (aI k (a 20) 5 fstarts__8), (aI k (a 21) 4 fends__8), (aZ k (a 22) 4 fgoesRound__8), (aI k (a 23) 8 fbegin__8)] ∧ va_S A s.heap H locs ∧ lv_has ls 7 [(4, .int (nI ii_9)), (0, .ref (a 0)), (1, .int (nI j_2)), (2, .int (nI j_4)), (3, .int p2)]) (fun n_9 x_9 H locs ls hI ih_9 => ?_) _ 0 ⟨rfl, (by omega), hP, hD, hS, (lv_sub hl [0, 1, 2, 3, 4] rfl)⟩
            obtain ⟨ii_9, rfl⟩ : ∃ z, z = x_9 := ⟨_, rfl⟩
            obtain ⟨hm_9, hv_9, hP, hD, hS, hl⟩ := hI
            subst hm_9
            refine lv_iload hx hb dX8_judge_75 (lv_at hl 0 rfl) ?_
            refine lv_aload_n hx hb dX8_judge_77 rfl (lv_at hl 1 rfl) ?_
            refine va_get (D := D) (ci := 8) (v := .int (nI rw)) (C := RX8) (T := TX8) (N := 44) hx hb hts inX8 hown hK hP 1 rfl rfl 30 (by decide) (hts _ tw_1003) (fun _ h9 => h9) rfl dX8_judge_78 ?_
            refine lv_icmp_ge (tgt := 207) hx hb dX8_judge_81 (by decide) (fun c_10 => ?_) (fun c_10 => ?_)
            · have c_10 := (nI_leI (a := rw) (b := ii_9) (by omega) (by omega)).mp c_10
              refine lv_iconst (v := (-1)) hx hb dX8_judge_207 (by decide) ?_
              have hP9 := hP.sub (ws' := [((a 0), .inr (8, (fX8 a (nI tx) fp (nI t0) wd (nI we) nu na (nI rd) ts (nI ru) (nI rw) (nI ca) df db sd))), (aI k (a 1) 3 (nF dn)), (aI k (a 4) 27 (sg se tm gs)), (aI k (a 2) 72 ffrees), (aI k (a 3) 72 fprices), (aZ k (a 32) 24 frow), (aI k (a 18) 768 fons__8), (aI k (a 19) 768 fworths__8), (aI k (a 20) 5 fstarts__8), (aI k (a 21) 4 fends__8), (aZ k (a 22) 4 fgoesRound__8), (aI k (a 23) 8 fbegin__8)]) [1, 2, 3, 4, 5, 0, 6, 7, 8, 9, 10, 11] rfl
              have hD9 := hD.sub (ws' := [((a 0), .inr (8, (fX8 a (nI tx) fp (nI t0) wd (nI we) nu na (nI rd) ts (nI ru) (nI rw) (nI ca) df db sd))), (aI k (a 1) 3 (nF dn)), (aI k (a 4) 27 (sg se tm gs)), (aI k (a 2) 72 ffrees), (aI k (a 3) 72 fprices), (aZ k (a 32) 24 frow), (aI k (a 18) 768 fons__8), (aI k (a 19) 768 fworths__8), (aI k (a 20) 5 fstarts__8), (aI k (a 21) 4 fends__8), (aZ k (a 22) 4 fgoesRound__8), (aI k (a 23) 8 fbegin__8)]) [1, 2, 3, 4, 5, 0, 6, 7, 8, 9, 10, 11] (by decide +kernel) rfl
              exact W.iret (v := (-1)) hx hb hr (fun t ht hW => ⟨⟨(-1), (fons__8, fworths__8, fstarts__8, fends__8, fgoesRound__8, fbegin__8), rfl, trivial, by rw [ht]; exact hP9, hD9⟩, hS.F ht⟩) hS.2.2 dX8_judge_208
            · have c_10 : ¬ (rw ≤ ii_9) := fun h => c_10 ((nI_leI (a := rw) (b := ii_9) (by omega) (by omega)).mpr h)
              refine lv_aload_n hx hb dX8_judge_84 rfl (lv_at hl 1 rfl) ?_
              refine va_get (D := D) (ci := 8) (v := .ref (a 32)) (C := RX8) (T := TX8) (N := 44) hx hb hts inX8 hown hK hP 1 rfl rfl 31 (by decide) (hts _ tw_1004) (fun _ h9 => h9) rfl dX8_judge_85 ?_
              refine lv_iload hx hb dX8_judge_88 (lv_at hl 0 rfl) ?_
              refine va_zald hx hb hK hP 0 2 rfl rfl (vp_in_nI (by omega) (by decide)) dX8_judge_90 ?_
              refine lv_ti (y := (frow ii_9)) (by rw [nI_clamp (by omega)]) ?_
              refine lv_if_eq (tgt := 201) hx hb dX8_judge_91 (by decide) (fun c_11 => ?_) (fun c_11 => ?_)
              · refine lv_iinc (v := (nI (ii_9 + 1))) (lv' := [(4, .int (nI (ii_9 + 1))), (0, .ref (a 0)), (1, .int (nI j_2)), (2, .int (nI j_4)), (3, .int p2)]) hx hb dX8_judge_201 hl (k := 0) rfl (nI_add ii_9 1) (by decide) rfl (fun ls hl => ?_)
                refine lv_goto (tgt := 75) hx hb dX8_judge_204 (by decide) ?_
                exact ih_9 _ (ii_9 + 1) _ _ _ (by omega) ⟨rfl, (by omega), hP, hD, hS, (lv_sub hl [0, 1, 2, 3, 4] rfl)⟩
              · refine lv_iload hx hb dX8_judge_94 (lv_at hl 0 rfl) ?_
                refine lv_aload_n hx hb dX8_judge_96 rfl (lv_at hl 1 rfl) ?_
                refine lv_iload_n hx hb dX8_judge_97 rfl (lv_at hl 2 rfl) ?_
                refine lv_iload hx hb dX8_judge_98 (lv_at hl 0 rfl) ?_
                refine ro_i (D := D) (va_runV (As := [.int (nI j_2), .int (nI ii_9)]) (rest := [.int (nI ii_9)]) ⟨hx, hb, hml, hown, hts⟩ ((m_seen l D k st lo a tx t0 we rd ru rw ca fp wd nu na ts df db sd dn se tm gs j_2 ii_9 hdn hse (by omega) (by omega)) H.size) (cwV 2 hts (gV tw_1246 tw_1248 tw_48 tw_87 tw_1249) rfl rfl rfl (by decide +kernel) ⟨Nat.le_of_ble_eq_true rfl, Nat.le_of_ble_eq_true rfl⟩) (pV hS hAlo hlo hP hK (va_Dlo hD hAlo) hZ [1, 2, 3] (by decide) rfl (ci := 8) (q := (RX8, TX8, 44)) (q0 := 0) rfl rfl) rfl rfl hl.1 rfl (lv_room (Nat.le_of_ble_eq_true rfl)) dX8_judge_100 ⟨Nat.le_of_ble_eq_true rfl, Nat.le_of_ble_eq_true rfl⟩) hS hA hP (fun r_12 H locs hw_12 hP hS => ?_)
                try dsimp only at hw_12
                obtain ⟨sv_13, esv_13⟩ : ∃ z : Nat, z = (if dn j_2 - ii_9 < se j_2 + 1 then dn j_2 - ii_9 else se j_2 + 1) := ⟨_, rfl⟩
                rw [← esv_13] at hw_12
                subst hw_12
                have hsv_13 : sv_13 ≤ 3 ∧ sv_13 ≤ dn j_2 - ii_9 ∧ (0 < dn j_2 - ii_9 → 1 ≤ sv_13) := by
                  have hse9 := hse j_2
                  split at esv_13 <;> omega
                refine lv_iadd hx hb dX8_judge_103 ?_
                refine lv_ti (y := (nI (ii_9 + sv_13))) (nI_add ii_9 sv_13) ?_
                refine lv_aload_n hx hb dX8_judge_104 rfl (lv_at hl 1 rfl) ?_
                refine va_get (D := D) (ci := 8) (v := .int (nI rw)) (C := RX8) (T := TX8) (N := 44) hx hb hts inX8 hown hK hP 1 rfl rfl 30 (by decide) (hts _ tw_1003) (fun _ h9 => h9) rfl dX8_judge_105 ?_
                refine lv_icmp_gt (tgt := 201) hx hb dX8_judge_108 (by decide) (fun c_14 => ?_) (fun c_14 => ?_)
                · have c_14 := (nI_ltI (a := rw) (b := (ii_9 + sv_13)) (by omega) (by omega)).mp c_14
                  refine lv_iinc (v := (nI (ii_9 + 1))) (lv' := [(4, .int (nI (ii_9 + 1))), (0, .ref (a 0)), (1, .int (nI j_2)), (2, .int (nI j_4)), (3, .int p2)]) hx hb dX8_judge_201 hl (k := 0) rfl (nI_add ii_9 1) (by decide) rfl (fun ls hl => ?_)
                  refine lv_goto (tgt := 75) hx hb dX8_judge_204 (by decide) ?_
                  exact ih_9 _ (ii_9 + 1) _ _ _ (by omega) ⟨rfl, (by omega), hP, hD, hS, (lv_sub hl [0, 1, 2, 3, 4] rfl)⟩
                · have c_14 : ¬ (rw < (ii_9 + sv_13)) := fun h => c_14 ((nI_ltI (a := rw) (b := (ii_9 + sv_13)) (by omega) (by omega)).mpr h)
                  refine lv_iconst (v := 0) hx hb dX8_judge_111 (by decide) ?_
                  refine lv_istore (lv' := [(5, .int 0), (4, .int (nI ii_9)), (0, .ref (a 0)), (1, .int (nI j_2)), (2, .int (nI j_4)), (3, .int p2)]) hx hb dX8_judge_112 hl (by decide) rfl (fun ls hl => ?_)
                  refine lv_iconst (v := 0) hx hb dX8_judge_114 (by decide) ?_
                  refine lv_istore (lv' := [(6, .int 0), (5, .int 0), (4, .int (nI ii_9)), (0, .ref (a 0)), (1, .int (nI j_2)), (2, .int (nI j_4)), (3, .int p2)]) hx hb dX8_judge_115 hl (by decide) rfl (fun ls hl => ?_)
                  refine W_loop (σ := Nat × Nat) (fun (n_ : Nat) (x_ : Nat × Nat) (H : Heap) (locs : List Loc) (ls : Array Slot) => match x_ with | (kk_15, g_15) => n_ = 4 - kk_15 ∧ (kk_15 ≤ 3 ∧ g_15 < 8) ∧ va_P D classes [(aZ k (a 32) 24 frow), ((a 0), .inr (8, (fX8 a (nI tx) fp (nI t0) wd (nI we) nu na (nI rd) ts (nI ru) (nI rw) (nI ca) df db sd))), (aI k (a 1) 3 (nF dn)), (aI k (a 4) 27 (sg se tm gs)), (aI k (a 2) 72 ffrees), (aI k (a 3) 72 fprices), (aI k (a 18) 768 fons__8), (aI k (a 19) 768 fworths__8), (aI k (a 20) 5 fstarts__8), (aI k (a 21) 4 fends__8), (aZ k (a 22) 4 fgoesRound__8), (aI k (a 23) 8 fbegin__8)] H ∧ va_D A [(aZ k (a 32) 24 frow), ((a 0), .inr (8, (fX8 a (nI tx) fp (nI t0) wd (nI we) nu na (nI rd) ts (nI ru) (nI rw) (nI ca) df db sd))), (aI k (a 1) 3 (nF dn)), (aI k (a 4) 27 (sg se tm gs)), (aI k (a 2) 72 ffrees), (aI k (a 3) 72 fprices), (aI k (a 18) 768 fons__8), (aI k (a 19) 768 fworths__8), (aI k (a 20) 5 fstarts__8), (aI k (a 21) 4 fends__8), (aZ k (a 22) 4 fgoesRound__8), (aI k (a 23) 8 fbegin__8)] ∧ va_S A s.heap H locs ∧ lv_has ls 7 [(6, .int (nI kk_15)), (5, .int (nI g_15)), (4, .int (nI ii_9)), (0, .ref (a 0)), (1, .int (nI j_2)), (2, .int (nI j_4)), (3, .int p2)]) (fun n_15 x_15 H locs ls hI ih_15 => ?_) _ (0, 0) ⟨rfl, ⟨by omega, by omega⟩, hP, hD, hS, (lv_sub hl [0, 1, 2, 3, 4, 5, 6] rfl)⟩
                  obtain ⟨kk_15, g_15⟩ := x_15
                  obtain ⟨hm_15, hv_15, hP, hD, hS, hl⟩ := hI
                  subst hm_15
                  refine lv_iload hx hb dX8_judge_117 (lv_at hl 0 rfl) ?_
                  refine lv_aload_n hx hb dX8_judge_119 rfl (lv_at hl 3 rfl) ?_
                  refine lv_iload_n hx hb dX8_judge_120 rfl (lv_at hl 4 rfl) ?_
                  refine lv_iload hx hb dX8_judge_121 (lv_at hl 2 rfl) ?_
                  refine ro_i (D := D) (va_runV (As := [.int (nI j_2), .int (nI ii_9)]) (rest := [.int (nI kk_15)]) ⟨hx, hb, hml, hown, hts⟩ ((m_seen l D k st lo a tx t0 we rd ru rw ca fp wd nu na ts df db sd dn se tm gs j_2 ii_9 hdn hse (by omega) (by omega)) H.size) (cwV 2 hts (gV tw_1246 tw_1248 tw_48 tw_87 tw_1249) rfl rfl rfl (by decide +kernel) ⟨Nat.le_of_ble_eq_true rfl, Nat.le_of_ble_eq_true rfl⟩) (pV hS hAlo hlo hP hK (va_Dlo hD hAlo) hZ [1, 2, 3] (by decide) rfl (ci := 8) (q := (RX8, TX8, 44)) (q0 := 0) rfl rfl) rfl rfl hl.1 rfl (lv_room (Nat.le_of_ble_eq_true rfl)) dX8_judge_123 ⟨Nat.le_of_ble_eq_true rfl, Nat.le_of_ble_eq_true rfl⟩) hS hA hP (fun r_16 H locs hw_16 hP hS => ?_)
                  try dsimp only at hw_16
                  obtain ⟨sv_17, esv_17⟩ : ∃ z : Nat, z = (if dn j_2 - ii_9 < se j_2 + 1 then dn j_2 - ii_9 else se j_2 + 1) := ⟨_, rfl⟩
                  rw [← esv_17] at hw_16
                  subst hw_16
                  have hsv_17 : sv_17 ≤ 3 ∧ sv_17 ≤ dn j_2 - ii_9 ∧ (0 < dn j_2 - ii_9 → 1 ≤ sv_17) := by
                    have hse9 := hse j_2
                    split at esv_17 <;> omega
                  refine lv_icmp_ge (tgt := 161) hx hb dX8_judge_126 (by decide) (fun c_18 => ?_) (fun c_18 => ?_)
                  · have c_18 := (nI_leI (a := sv_17) (b := kk_15) (by omega) (by omega)).mp c_18
                    refine lv_iload_n hx hb dX8_judge_161 rfl (lv_at hl 6 rfl) ?_
                    refine lv_if_eq (tgt := 180) hx hb dX8_judge_162 (by decide) (fun c_19 => ?_) (fun c_19 => ?_)
                    · refine lv_iconst (v := 0) hx hb dX8_judge_180 (by decide) ?_
                      refine lv_istore (lv' := [(6, .int 0), (5, .int (nI g_15)), (4, .int (nI ii_9)), (0, .ref (a 0)), (1, .int (nI j_2)), (2, .int (nI j_4)), (3, .int p2)]) hx hb dX8_judge_181 hl (by decide) rfl (fun ls hl => ?_)
                      refine lv_aload_n hx hb dX8_judge_183 rfl (lv_at hl 3 rfl) ?_
                      refine lv_iload_n hx hb dX8_judge_184 rfl (lv_at hl 4 rfl) ?_
                      refine lv_iload_n hx hb dX8_judge_185 rfl (lv_at hl 5 rfl) ?_
                      refine lv_iload hx hb dX8_judge_186 (lv_at hl 2 rfl) ?_
                      refine lv_iload hx hb dX8_judge_188 (lv_at hl 1 rfl) ?_
                      refine ro_i (D := D) (va_runV (As := [.int (nI j_2), .int (nI j_4), .int (nI ii_9), .int (nI g_15)]) (rest := []) ⟨hx, hb, hml, hown, hts⟩ ((m_isTaking l D k st lo a tx t0 we rd ru rw ca fp wd nu na ts df db sd dn se tm gs fprices fons__8 j_2 j_4 ii_9 g_15 (by omega) (by omega) (by omega) (by omega)) H.size) (cwV 4 hts (gV tw_1285 tw_1287 tw_54 tw_87 tw_1288) rfl rfl rfl (by decide +kernel) ⟨Nat.le_of_ble_eq_true rfl, Nat.le_of_ble_eq_true rfl⟩) (pV hS hAlo hlo hP hK (va_Dlo hD hAlo) hZ [1, 2, 3, 5, 6] (by decide) rfl (ci := 8) (q := (RX8, TX8, 44)) (q0 := 0) rfl rfl) rfl rfl hl.1 rfl (lv_room (Nat.le_of_ble_eq_true rfl)) dX8_judge_190 ⟨Nat.le_of_ble_eq_true rfl, Nat.le_of_ble_eq_true rfl⟩) hS hA hP (fun r_20 H locs hw_20 hP hS => ?_)
                      try dsimp only at hw_20
                      refine lv_iload hx hb dX8_judge_193 (lv_at hl 0 rfl) ?_
                      refine lv_icmp_eq (tgt := 201) hx hb dX8_judge_195 (by decide) (fun c_21 => ?_) (fun c_21 => ?_)
                      · refine lv_iinc (v := (nI (ii_9 + 1))) (lv' := [(4, .int (nI (ii_9 + 1))), (6, .int 0), (5, .int (nI g_15)), (0, .ref (a 0)), (1, .int (nI j_2)), (2, .int (nI j_4)), (3, .int p2)]) hx hb dX8_judge_201 hl (k := 2) rfl (nI_add ii_9 1) (by decide) rfl (fun ls hl => ?_)
                        refine lv_goto (tgt := 75) hx hb dX8_judge_204 (by decide) ?_
                        exact ih_9 _ (ii_9 + 1) _ _ _ (by omega) ⟨rfl, (by omega), hP, hD, hS, (lv_sub hl [0, 3, 4, 5, 6] rfl)⟩
                      · refine lv_iload hx hb dX8_judge_198 (lv_at hl 2 rfl) ?_
                        have hP9 := hP.sub (ws' := [((a 0), .inr (8, (fX8 a (nI tx) fp (nI t0) wd (nI we) nu na (nI rd) ts (nI ru) (nI rw) (nI ca) df db sd))), (aI k (a 1) 3 (nF dn)), (aI k (a 4) 27 (sg se tm gs)), (aI k (a 2) 72 ffrees), (aI k (a 3) 72 fprices), (aZ k (a 32) 24 frow), (aI k (a 18) 768 fons__8), (aI k (a 19) 768 fworths__8), (aI k (a 20) 5 fstarts__8), (aI k (a 21) 4 fends__8), (aZ k (a 22) 4 fgoesRound__8), (aI k (a 23) 8 fbegin__8)]) [1, 2, 3, 4, 5, 0, 6, 7, 8, 9, 10, 11] rfl
                        have hD9 := hD.sub (ws' := [((a 0), .inr (8, (fX8 a (nI tx) fp (nI t0) wd (nI we) nu na (nI rd) ts (nI ru) (nI rw) (nI ca) df db sd))), (aI k (a 1) 3 (nF dn)), (aI k (a 4) 27 (sg se tm gs)), (aI k (a 2) 72 ffrees), (aI k (a 3) 72 fprices), (aZ k (a 32) 24 frow), (aI k (a 18) 768 fons__8), (aI k (a 19) 768 fworths__8), (aI k (a 20) 5 fstarts__8), (aI k (a 21) 4 fends__8), (aZ k (a 22) 4 fgoesRound__8), (aI k (a 23) 8 fbegin__8)]) [1, 2, 3, 4, 5, 0, 6, 7, 8, 9, 10, 11] (by decide +kernel) rfl
                        exact W.iret (v := (nI ii_9)) hx hb hr (fun t ht hW => ⟨⟨(nI ii_9), (fons__8, fworths__8, fstarts__8, fends__8, fgoesRound__8, fbegin__8), rfl, trivial, by rw [ht]; exact hP9, hD9⟩, hS.F ht⟩) hS.2.2 dX8_judge_200
                    · refine lv_iload hx hb dX8_judge_165 (lv_at hl 2 rfl) ?_
                      refine lv_aload_n hx hb dX8_judge_167 rfl (lv_at hl 3 rfl) ?_
                      refine va_get (D := D) (ci := 8) (v := .int (nI rw)) (C := RX8) (T := TX8) (N := 44) hx hb hts inX8 hown hK hP 1 rfl rfl 30 (by decide) (hts _ tw_1003) (fun _ h9 => h9) rfl dX8_judge_168 ?_
                      refine lv_iconst (v := 1) hx hb dX8_judge_171 (by decide) ?_
                      refine lv_isub hx hb dX8_judge_172 ?_
                      refine lv_ti (y := (nI (rw - 1))) (pk_sub (a := rw) (b := 1) (by omega)) ?_
                      refine lv_icmp_ne (tgt := 180) hx hb dX8_judge_173 (by decide) (fun c_22 => ?_) (fun c_22 => ?_)
                      · have c_22 : ¬ (ii_9 = (rw - 1)) := fun h => c_22 ((nI_eq (a := ii_9) (b := (rw - 1)) (by omega) (by omega)).mpr h)
                        refine lv_iconst (v := 0) hx hb dX8_judge_180 (by decide) ?_
                        refine lv_istore (lv' := [(6, .int 0), (5, .int (nI g_15)), (4, .int (nI ii_9)), (0, .ref (a 0)), (1, .int (nI j_2)), (2, .int (nI j_4)), (3, .int p2)]) hx hb dX8_judge_181 hl (by decide) rfl (fun ls hl => ?_)
                        refine lv_aload_n hx hb dX8_judge_183 rfl (lv_at hl 3 rfl) ?_
                        refine lv_iload_n hx hb dX8_judge_184 rfl (lv_at hl 4 rfl) ?_
                        refine lv_iload_n hx hb dX8_judge_185 rfl (lv_at hl 5 rfl) ?_
                        refine lv_iload hx hb dX8_judge_186 (lv_at hl 2 rfl) ?_
                        refine lv_iload hx hb dX8_judge_188 (lv_at hl 1 rfl) ?_
                        refine ro_i (D := D) (va_runV (As := [.int (nI j_2), .int (nI j_4), .int (nI ii_9), .int (nI g_15)]) (rest := []) ⟨hx, hb, hml, hown, hts⟩ ((m_isTaking l D k st lo a tx t0 we rd ru rw ca fp wd nu na ts df db sd dn se tm gs fprices fons__8 j_2 j_4 ii_9 g_15 (by omega) (by omega) (by omega) (by omega)) H.size) (cwV 4 hts (gV tw_1285 tw_1287 tw_54 tw_87 tw_1288) rfl rfl rfl (by decide +kernel) ⟨Nat.le_of_ble_eq_true rfl, Nat.le_of_ble_eq_true rfl⟩) (pV hS hAlo hlo hP hK (va_Dlo hD hAlo) hZ [1, 2, 3, 5, 6] (by decide) rfl (ci := 8) (q := (RX8, TX8, 44)) (q0 := 0) rfl rfl) rfl rfl hl.1 rfl (lv_room (Nat.le_of_ble_eq_true rfl)) dX8_judge_190 ⟨Nat.le_of_ble_eq_true rfl, Nat.le_of_ble_eq_true rfl⟩) hS hA hP (fun r_23 H locs hw_23 hP hS => ?_)
                        try dsimp only at hw_23
                        refine lv_iload hx hb dX8_judge_193 (lv_at hl 0 rfl) ?_
                        refine lv_icmp_eq (tgt := 201) hx hb dX8_judge_195 (by decide) (fun c_24 => ?_) (fun c_24 => ?_)
                        · refine lv_iinc (v := (nI (ii_9 + 1))) (lv' := [(4, .int (nI (ii_9 + 1))), (6, .int 0), (5, .int (nI g_15)), (0, .ref (a 0)), (1, .int (nI j_2)), (2, .int (nI j_4)), (3, .int p2)]) hx hb dX8_judge_201 hl (k := 2) rfl (nI_add ii_9 1) (by decide) rfl (fun ls hl => ?_)
                          refine lv_goto (tgt := 75) hx hb dX8_judge_204 (by decide) ?_
                          exact ih_9 _ (ii_9 + 1) _ _ _ (by omega) ⟨rfl, (by omega), hP, hD, hS, (lv_sub hl [0, 3, 4, 5, 6] rfl)⟩
                        · refine lv_iload hx hb dX8_judge_198 (lv_at hl 2 rfl) ?_
                          have hP9 := hP.sub (ws' := [((a 0), .inr (8, (fX8 a (nI tx) fp (nI t0) wd (nI we) nu na (nI rd) ts (nI ru) (nI rw) (nI ca) df db sd))), (aI k (a 1) 3 (nF dn)), (aI k (a 4) 27 (sg se tm gs)), (aI k (a 2) 72 ffrees), (aI k (a 3) 72 fprices), (aZ k (a 32) 24 frow), (aI k (a 18) 768 fons__8), (aI k (a 19) 768 fworths__8), (aI k (a 20) 5 fstarts__8), (aI k (a 21) 4 fends__8), (aZ k (a 22) 4 fgoesRound__8), (aI k (a 23) 8 fbegin__8)]) [1, 2, 3, 4, 5, 0, 6, 7, 8, 9, 10, 11] rfl
                          have hD9 := hD.sub (ws' := [((a 0), .inr (8, (fX8 a (nI tx) fp (nI t0) wd (nI we) nu na (nI rd) ts (nI ru) (nI rw) (nI ca) df db sd))), (aI k (a 1) 3 (nF dn)), (aI k (a 4) 27 (sg se tm gs)), (aI k (a 2) 72 ffrees), (aI k (a 3) 72 fprices), (aZ k (a 32) 24 frow), (aI k (a 18) 768 fons__8), (aI k (a 19) 768 fworths__8), (aI k (a 20) 5 fstarts__8), (aI k (a 21) 4 fends__8), (aZ k (a 22) 4 fgoesRound__8), (aI k (a 23) 8 fbegin__8)]) [1, 2, 3, 4, 5, 0, 6, 7, 8, 9, 10, 11] (by decide +kernel) rfl
                          exact W.iret (v := (nI ii_9)) hx hb hr (fun t ht hW => ⟨⟨(nI ii_9), (fons__8, fworths__8, fstarts__8, fends__8, fgoesRound__8, fbegin__8), rfl, trivial, by rw [ht]; exact hP9, hD9⟩, hS.F ht⟩) hS.2.2 dX8_judge_200
                      · have c_22 := (nI_eq (a := ii_9) (b := (rw - 1)) (by omega) (by omega)).mp c_22
                        refine lv_iconst (v := 1) hx hb dX8_judge_176 (by decide) ?_
                        refine lv_goto (tgt := 181) hx hb dX8_judge_177 (by decide) ?_
                        refine lv_istore (lv' := [(6, .int 1), (5, .int (nI g_15)), (4, .int (nI ii_9)), (0, .ref (a 0)), (1, .int (nI j_2)), (2, .int (nI j_4)), (3, .int p2)]) hx hb dX8_judge_181 hl (by decide) rfl (fun ls hl => ?_)
                        refine lv_aload_n hx hb dX8_judge_183 rfl (lv_at hl 3 rfl) ?_
                        refine lv_iload_n hx hb dX8_judge_184 rfl (lv_at hl 4 rfl) ?_
                        refine lv_iload_n hx hb dX8_judge_185 rfl (lv_at hl 5 rfl) ?_
                        refine lv_iload hx hb dX8_judge_186 (lv_at hl 2 rfl) ?_
                        refine lv_iload hx hb dX8_judge_188 (lv_at hl 1 rfl) ?_
                        refine ro_i (D := D) (va_runV (As := [.int (nI j_2), .int (nI j_4), .int (nI ii_9), .int (nI g_15)]) (rest := []) ⟨hx, hb, hml, hown, hts⟩ ((m_isTaking l D k st lo a tx t0 we rd ru rw ca fp wd nu na ts df db sd dn se tm gs fprices fons__8 j_2 j_4 ii_9 g_15 (by omega) (by omega) (by omega) (by omega)) H.size) (cwV 4 hts (gV tw_1285 tw_1287 tw_54 tw_87 tw_1288) rfl rfl rfl (by decide +kernel) ⟨Nat.le_of_ble_eq_true rfl, Nat.le_of_ble_eq_true rfl⟩) (pV hS hAlo hlo hP hK (va_Dlo hD hAlo) hZ [1, 2, 3, 5, 6] (by decide) rfl (ci := 8) (q := (RX8, TX8, 44)) (q0 := 0) rfl rfl) rfl rfl hl.1 rfl (lv_room (Nat.le_of_ble_eq_true rfl)) dX8_judge_190 ⟨Nat.le_of_ble_eq_true rfl, Nat.le_of_ble_eq_true rfl⟩) hS hA hP (fun r_25 H locs hw_25 hP hS => ?_)
                        try dsimp only at hw_25
                        refine lv_iload hx hb dX8_judge_193 (lv_at hl 0 rfl) ?_
                        refine lv_icmp_eq (tgt := 201) hx hb dX8_judge_195 (by decide) (fun c_26 => ?_) (fun c_26 => ?_)
                        · refine lv_iinc (v := (nI (ii_9 + 1))) (lv' := [(4, .int (nI (ii_9 + 1))), (6, .int 1), (5, .int (nI g_15)), (0, .ref (a 0)), (1, .int (nI j_2)), (2, .int (nI j_4)), (3, .int p2)]) hx hb dX8_judge_201 hl (k := 2) rfl (nI_add ii_9 1) (by decide) rfl (fun ls hl => ?_)
                          refine lv_goto (tgt := 75) hx hb dX8_judge_204 (by decide) ?_
                          exact ih_9 _ (ii_9 + 1) _ _ _ (by omega) ⟨rfl, (by omega), hP, hD, hS, (lv_sub hl [0, 3, 4, 5, 6] rfl)⟩
                        · refine lv_iload hx hb dX8_judge_198 (lv_at hl 2 rfl) ?_
                          have hP9 := hP.sub (ws' := [((a 0), .inr (8, (fX8 a (nI tx) fp (nI t0) wd (nI we) nu na (nI rd) ts (nI ru) (nI rw) (nI ca) df db sd))), (aI k (a 1) 3 (nF dn)), (aI k (a 4) 27 (sg se tm gs)), (aI k (a 2) 72 ffrees), (aI k (a 3) 72 fprices), (aZ k (a 32) 24 frow), (aI k (a 18) 768 fons__8), (aI k (a 19) 768 fworths__8), (aI k (a 20) 5 fstarts__8), (aI k (a 21) 4 fends__8), (aZ k (a 22) 4 fgoesRound__8), (aI k (a 23) 8 fbegin__8)]) [1, 2, 3, 4, 5, 0, 6, 7, 8, 9, 10, 11] rfl
                          have hD9 := hD.sub (ws' := [((a 0), .inr (8, (fX8 a (nI tx) fp (nI t0) wd (nI we) nu na (nI rd) ts (nI ru) (nI rw) (nI ca) df db sd))), (aI k (a 1) 3 (nF dn)), (aI k (a 4) 27 (sg se tm gs)), (aI k (a 2) 72 ffrees), (aI k (a 3) 72 fprices), (aZ k (a 32) 24 frow), (aI k (a 18) 768 fons__8), (aI k (a 19) 768 fworths__8), (aI k (a 20) 5 fstarts__8), (aI k (a 21) 4 fends__8), (aZ k (a 22) 4 fgoesRound__8), (aI k (a 23) 8 fbegin__8)]) [1, 2, 3, 4, 5, 0, 6, 7, 8, 9, 10, 11] (by decide +kernel) rfl
                          exact W.iret (v := (nI ii_9)) hx hb hr (fun t ht hW => ⟨⟨(nI ii_9), (fons__8, fworths__8, fstarts__8, fends__8, fgoesRound__8, fbegin__8), rfl, trivial, by rw [ht]; exact hP9, hD9⟩, hS.F ht⟩) hS.2.2 dX8_judge_200
                  · have c_18 : ¬ (sv_17 ≤ kk_15) := fun h => c_18 ((nI_leI (a := sv_17) (b := kk_15) (by omega) (by omega)).mpr h)
                    refine lv_iload hx hb dX8_judge_129 (lv_at hl 1 rfl) ?_
                    refine lv_aload_n hx hb dX8_judge_131 rfl (lv_at hl 3 rfl) ?_
                    refine va_get (D := D) (ci := 8) (v := .ref (a 32)) (C := RX8) (T := TX8) (N := 44) hx hb hts inX8 hown hK hP 1 rfl rfl 31 (by decide) (hts _ tw_1004) (fun _ h9 => h9) rfl dX8_judge_132 ?_
                    refine lv_iload hx hb dX8_judge_135 (lv_at hl 2 rfl) ?_
                    refine lv_iload hx hb dX8_judge_137 (lv_at hl 0 rfl) ?_
                    refine lv_iadd hx hb dX8_judge_139 ?_
                    refine lv_ti (y := (nI (ii_9 + kk_15))) (nI_add ii_9 kk_15) ?_
                    refine va_zald hx hb hK hP 0 2 rfl rfl (vp_in_nI (by omega) (by decide)) dX8_judge_140 ?_
                    refine lv_ti (y := (frow (ii_9 + kk_15))) (by rw [nI_clamp (by omega)]) ?_
                    refine lv_if_eq (tgt := 151) hx hb dX8_judge_141 (by decide) (fun c_27 => ?_) (fun c_27 => ?_)
                    · refine lv_iconst (v := 0) hx hb dX8_judge_151 (by decide) ?_
                      obtain ⟨ov_28, hov_28, eov_28⟩ := or8 g_15 (by omega) 0 (by omega)
                      refine lv_ior hx hb dX8_judge_152 ?_
                      refine lv_ti (y := (nI ov_28)) eov_28 ?_
                      refine lv_istore (lv' := [(5, .int (nI ov_28)), (6, .int (nI kk_15)), (4, .int (nI ii_9)), (0, .ref (a 0)), (1, .int (nI j_2)), (2, .int (nI j_4)), (3, .int p2)]) hx hb dX8_judge_153 hl (by decide) rfl (fun ls hl => ?_)
                      refine lv_iinc (v := (nI (kk_15 + 1))) (lv' := [(6, .int (nI (kk_15 + 1))), (5, .int (nI ov_28)), (4, .int (nI ii_9)), (0, .ref (a 0)), (1, .int (nI j_2)), (2, .int (nI j_4)), (3, .int p2)]) hx hb dX8_judge_155 hl (k := 1) rfl (nI_add kk_15 1) (by decide) rfl (fun ls hl => ?_)
                      refine lv_goto (tgt := 117) hx hb dX8_judge_158 (by decide) ?_
                      exact ih_15 _ (kk_15 + 1, ov_28) _ _ _ (by omega) ⟨rfl, ⟨by omega, by omega⟩, hP, hD, hS, (lv_sub hl [0, 1, 2, 3, 4, 5, 6] rfl)⟩
                    · refine lv_iconst (v := 1) hx hb dX8_judge_144 (by decide) ?_
                      refine lv_iload hx hb dX8_judge_145 (lv_at hl 0 rfl) ?_
                      obtain ⟨pw_29, epw_29⟩ : ∃ z : Nat, z = 2 ^ kk_15 := ⟨_, rfl⟩
                      have hpw_29 : 1 ≤ pw_29 ∧ pw_29 ≤ 4 := by rw [epw_29]; exact pw4 (by omega)
                      refine lv_ishl hx hb dX8_judge_147 ?_
                      refine lv_ti (y := (nI pw_29)) (by rw [epw_29]; exact shl1 kk_15 (by omega)) ?_
                      refine lv_goto (tgt := 152) hx hb dX8_judge_148 (by decide) ?_
                      obtain ⟨ov_30, hov_30, eov_30⟩ := or8 g_15 (by omega) pw_29 (by omega)
                      refine lv_ior hx hb dX8_judge_152 ?_
                      refine lv_ti (y := (nI ov_30)) eov_30 ?_
                      refine lv_istore (lv' := [(5, .int (nI ov_30)), (6, .int (nI kk_15)), (4, .int (nI ii_9)), (0, .ref (a 0)), (1, .int (nI j_2)), (2, .int (nI j_4)), (3, .int p2)]) hx hb dX8_judge_153 hl (by decide) rfl (fun ls hl => ?_)
                      refine lv_iinc (v := (nI (kk_15 + 1))) (lv' := [(6, .int (nI (kk_15 + 1))), (5, .int (nI ov_30)), (4, .int (nI ii_9)), (0, .ref (a 0)), (1, .int (nI j_2)), (2, .int (nI j_4)), (3, .int p2)]) hx hb dX8_judge_155 hl (k := 1) rfl (nI_add kk_15 1) (by decide) rfl (fun ls hl => ?_)
                      refine lv_goto (tgt := 117) hx hb dX8_judge_158 (by decide) ?_
                      exact ih_15 _ (kk_15 + 1, ov_30) _ _ _ (by omega) ⟨rfl, ⟨by omega, by omega⟩, hP, hD, hS, (lv_sub hl [0, 1, 2, 3, 4, 5, 6] rfl)⟩
          · refine lv_aload_n hx hb dX8_judge_49 rfl (lv_at hl 0 rfl) ?_
            refine va_get (D := D) (ci := 8) (v := .ref (a 32)) (C := RX8) (T := TX8) (N := 44) hx hb hts inX8 hown hK hP 0 rfl rfl 31 (by decide) (hts _ tw_1004) (fun _ h9 => h9) rfl dX8_judge_50 ?_
            refine lv_aload_n hx hb dX8_judge_53 rfl (lv_at hl 0 rfl) ?_
            refine va_get (D := D) (ci := 8) (v := .int (nI rw)) (C := RX8) (T := TX8) (N := 44) hx hb hts inX8 hown hK hP 0 rfl rfl 30 (by decide) (hts _ tw_1003) (fun _ h9 => h9) rfl dX8_judge_54 ?_
            refine lv_iconst (v := 1) hx hb dX8_judge_57 (by decide) ?_
            refine lv_isub hx hb dX8_judge_58 ?_
            refine lv_ti (y := (nI (rw - 1))) (pk_sub (a := rw) (b := 1) (by omega)) ?_
            refine va_zald hx hb hK hP 5 2 rfl rfl (vp_in_nI (by omega) (by decide)) dX8_judge_59 ?_
            refine lv_ti (y := (frow (rw - 1))) (by rw [nI_clamp (by omega)]) ?_
            refine lv_if_ne (tgt := 67) hx hb dX8_judge_60 (by decide) (fun c_31 => ?_) (fun c_31 => ?_)
            · refine lv_aload_n hx hb dX8_judge_67 rfl (lv_at hl 0 rfl) ?_
              refine lv_iload_n hx hb dX8_judge_68 rfl (lv_at hl 1 rfl) ?_
              refine rw_v (D := D) (wr := [(aZ k (a 32) 24 frow)]) (va_runV (As := [.int (nI j_2)]) (rest := []) ⟨hx, hb, hml, hown, hts⟩ ((m_findWay l D k st lo a tx t0 we rd ru rw ca fp wd nu na ts df db sd dn se tm gs ffrees fprices fons fworths fstarts fends fgoesRound fbegin j_2 hdn hse htm (by omega) (by omega)) H.size) (cwV 1 hts (gV tw_1250 tw_1252 tw_49 tw_87 tw_1253) rfl rfl rfl (by decide +kernel) ⟨Nat.le_of_ble_eq_true rfl, Nat.le_of_ble_eq_true rfl⟩) (pV hS hAlo hlo hP hK (va_Dlo hD hAlo) hZ [0, 1, 2, 3, 4, 6, 7, 8, 9, 10, 11] (by decide +kernel) rfl (ci := 8) (q := (RX8, TX8, 44)) (q0 := 0) rfl rfl) rfl rfl hl.1 rfl (lv_room (Nat.le_of_ble_eq_true rfl)) dX8_judge_69 ⟨Nat.le_of_ble_eq_true rfl, Nat.le_of_ble_eq_true rfl⟩) hS hA hP hD [0, 1, 2, 3, 4, 6, 7, 8, 9, 10, 11] [5] rfl rfl (by decide +kernel) (by decide +kernel) (fun u H locs hw_32 hP hD hS => ?_)
              obtain ⟨fons__32, fworths__32, fstarts__32, fends__32, fgoesRound__32, fbegin__32⟩ := u
              replace hP : va_P D classes [(aZ k (a 32) 24 frow), ((a 0), .inr (8, (fX8 a (nI tx) fp (nI t0) wd (nI we) nu na (nI rd) ts (nI ru) (nI rw) (nI ca) df db sd))), (aI k (a 1) 3 (nF dn)), (aI k (a 4) 27 (sg se tm gs)), (aI k (a 2) 72 ffrees), (aI k (a 3) 72 fprices), (aI k (a 18) 768 fons__32), (aI k (a 19) 768 fworths__32), (aI k (a 20) 5 fstarts__32), (aI k (a 21) 4 fends__32), (aZ k (a 22) 4 fgoesRound__32), (aI k (a 23) 8 fbegin__32)] H := hP
              replace hD : va_D A [(aZ k (a 32) 24 frow), ((a 0), .inr (8, (fX8 a (nI tx) fp (nI t0) wd (nI we) nu na (nI rd) ts (nI ru) (nI rw) (nI ca) df db sd))), (aI k (a 1) 3 (nF dn)), (aI k (a 4) 27 (sg se tm gs)), (aI k (a 2) 72 ffrees), (aI k (a 3) 72 fprices), (aI k (a 18) 768 fons__32), (aI k (a 19) 768 fworths__32), (aI k (a 20) 5 fstarts__32), (aI k (a 21) 4 fends__32), (aZ k (a 22) 4 fgoesRound__32), (aI k (a 23) 8 fbegin__32)] := hD
              try dsimp only at hw_32
              refine lv_iconst (v := 0) hx hb dX8_judge_72 (by decide) ?_
              refine lv_istore (lv' := [(4, .int 0), (0, .ref (a 0)), (1, .int (nI j_2)), (2, .int (nI j_4)), (3, .int p2)]) hx hb dX8_judge_73 hl (by decide) rfl (fun ls hl => ?_)
              refine W_loop (σ := Nat) (fun (n_ : Nat) (ii_33 : Nat) (H : Heap) (locs : List Loc) (ls : Array Slot) => n_ = rw - ii_33 ∧ (ii_33 ≤ rw) ∧ va_P D classes [(aZ k (a 32) 24 frow), ((a 0), .inr (8, (fX8 a (nI tx) fp (nI t0) wd (nI we) nu na (nI rd) ts (nI ru) (nI rw) (nI ca) df db sd))), (aI k (a 1) 3 (nF dn)), (aI k (a 4) 27 (sg se tm gs)), (aI k (a 2) 72 ffrees), (aI k (a 3) 72 fprices), (aI k (a 18) 768 fons__32), (aI k (a 19) 768 fworths__32), (aI k (a 20) 5 fstarts__32), (aI k (a 21) 4 fends__32), (aZ k (a 22) 4 fgoesRound__32), (aI k (a 23) 8 fbegin__32)] H ∧ va_D A [(aZ k (a 32) 24 frow), ((a 0), .inr (8, (fX8 a (nI tx) fp (nI t0) wd (nI we) nu na (nI rd) ts (nI ru) (nI rw) (nI ca) df db sd))), (aI k (a 1) 3 (nF dn)), (aI k (a 4) 27 (sg se tm gs)), (aI k (a 2) 72 ffrees), (aI k (a 3) 72 fprices), (aI k (a 18) 768 fons__32), (aI k (a 19) 768 fworths__32), (aI k (a 20) 5 fstarts__32), (aI k (a 21) 4 fends__32), (aZ k (a 22) 4 fgoesRound__32), (aI k (a 23) 8 fbegin__32)] ∧ va_S A s.heap H locs ∧ lv_has ls 7 [(4, .int (nI ii_33)), (0, .ref (a 0)), (1, .int (nI j_2)), (2, .int (nI j_4)), (3, .int p2)]) (fun n_33 x_33 H locs ls hI ih_33 => ?_) _ 0 ⟨rfl, (by omega), hP, hD, hS, (lv_sub hl [0, 1, 2, 3, 4] rfl)⟩
              obtain ⟨ii_33, rfl⟩ : ∃ z, z = x_33 := ⟨_, rfl⟩
              obtain ⟨hm_33, hv_33, hP, hD, hS, hl⟩ := hI
              subst hm_33
              refine lv_iload hx hb dX8_judge_75 (lv_at hl 0 rfl) ?_
              refine lv_aload_n hx hb dX8_judge_77 rfl (lv_at hl 1 rfl) ?_
              refine va_get (D := D) (ci := 8) (v := .int (nI rw)) (C := RX8) (T := TX8) (N := 44) hx hb hts inX8 hown hK hP 1 rfl rfl 30 (by decide) (hts _ tw_1003) (fun _ h9 => h9) rfl dX8_judge_78 ?_
              refine lv_icmp_ge (tgt := 207) hx hb dX8_judge_81 (by decide) (fun c_34 => ?_) (fun c_34 => ?_)
              · have c_34 := (nI_leI (a := rw) (b := ii_33) (by omega) (by omega)).mp c_34
                refine lv_iconst (v := (-1)) hx hb dX8_judge_207 (by decide) ?_
                have hP9 := hP.sub (ws' := [((a 0), .inr (8, (fX8 a (nI tx) fp (nI t0) wd (nI we) nu na (nI rd) ts (nI ru) (nI rw) (nI ca) df db sd))), (aI k (a 1) 3 (nF dn)), (aI k (a 4) 27 (sg se tm gs)), (aI k (a 2) 72 ffrees), (aI k (a 3) 72 fprices), (aZ k (a 32) 24 frow), (aI k (a 18) 768 fons__32), (aI k (a 19) 768 fworths__32), (aI k (a 20) 5 fstarts__32), (aI k (a 21) 4 fends__32), (aZ k (a 22) 4 fgoesRound__32), (aI k (a 23) 8 fbegin__32)]) [1, 2, 3, 4, 5, 0, 6, 7, 8, 9, 10, 11] rfl
                have hD9 := hD.sub (ws' := [((a 0), .inr (8, (fX8 a (nI tx) fp (nI t0) wd (nI we) nu na (nI rd) ts (nI ru) (nI rw) (nI ca) df db sd))), (aI k (a 1) 3 (nF dn)), (aI k (a 4) 27 (sg se tm gs)), (aI k (a 2) 72 ffrees), (aI k (a 3) 72 fprices), (aZ k (a 32) 24 frow), (aI k (a 18) 768 fons__32), (aI k (a 19) 768 fworths__32), (aI k (a 20) 5 fstarts__32), (aI k (a 21) 4 fends__32), (aZ k (a 22) 4 fgoesRound__32), (aI k (a 23) 8 fbegin__32)]) [1, 2, 3, 4, 5, 0, 6, 7, 8, 9, 10, 11] (by decide +kernel) rfl
                exact W.iret (v := (-1)) hx hb hr (fun t ht hW => ⟨⟨(-1), (fons__32, fworths__32, fstarts__32, fends__32, fgoesRound__32, fbegin__32), rfl, trivial, by rw [ht]; exact hP9, hD9⟩, hS.F ht⟩) hS.2.2 dX8_judge_208
              · have c_34 : ¬ (rw ≤ ii_33) := fun h => c_34 ((nI_leI (a := rw) (b := ii_33) (by omega) (by omega)).mpr h)
                refine lv_aload_n hx hb dX8_judge_84 rfl (lv_at hl 1 rfl) ?_
                refine va_get (D := D) (ci := 8) (v := .ref (a 32)) (C := RX8) (T := TX8) (N := 44) hx hb hts inX8 hown hK hP 1 rfl rfl 31 (by decide) (hts _ tw_1004) (fun _ h9 => h9) rfl dX8_judge_85 ?_
                refine lv_iload hx hb dX8_judge_88 (lv_at hl 0 rfl) ?_
                refine va_zald hx hb hK hP 0 2 rfl rfl (vp_in_nI (by omega) (by decide)) dX8_judge_90 ?_
                refine lv_ti (y := (frow ii_33)) (by rw [nI_clamp (by omega)]) ?_
                refine lv_if_eq (tgt := 201) hx hb dX8_judge_91 (by decide) (fun c_35 => ?_) (fun c_35 => ?_)
                · refine lv_iinc (v := (nI (ii_33 + 1))) (lv' := [(4, .int (nI (ii_33 + 1))), (0, .ref (a 0)), (1, .int (nI j_2)), (2, .int (nI j_4)), (3, .int p2)]) hx hb dX8_judge_201 hl (k := 0) rfl (nI_add ii_33 1) (by decide) rfl (fun ls hl => ?_)
                  refine lv_goto (tgt := 75) hx hb dX8_judge_204 (by decide) ?_
                  exact ih_33 _ (ii_33 + 1) _ _ _ (by omega) ⟨rfl, (by omega), hP, hD, hS, (lv_sub hl [0, 1, 2, 3, 4] rfl)⟩
                · refine lv_iload hx hb dX8_judge_94 (lv_at hl 0 rfl) ?_
                  refine lv_aload_n hx hb dX8_judge_96 rfl (lv_at hl 1 rfl) ?_
                  refine lv_iload_n hx hb dX8_judge_97 rfl (lv_at hl 2 rfl) ?_
                  refine lv_iload hx hb dX8_judge_98 (lv_at hl 0 rfl) ?_
                  refine ro_i (D := D) (va_runV (As := [.int (nI j_2), .int (nI ii_33)]) (rest := [.int (nI ii_33)]) ⟨hx, hb, hml, hown, hts⟩ ((m_seen l D k st lo a tx t0 we rd ru rw ca fp wd nu na ts df db sd dn se tm gs j_2 ii_33 hdn hse (by omega) (by omega)) H.size) (cwV 2 hts (gV tw_1246 tw_1248 tw_48 tw_87 tw_1249) rfl rfl rfl (by decide +kernel) ⟨Nat.le_of_ble_eq_true rfl, Nat.le_of_ble_eq_true rfl⟩) (pV hS hAlo hlo hP hK (va_Dlo hD hAlo) hZ [1, 2, 3] (by decide) rfl (ci := 8) (q := (RX8, TX8, 44)) (q0 := 0) rfl rfl) rfl rfl hl.1 rfl (lv_room (Nat.le_of_ble_eq_true rfl)) dX8_judge_100 ⟨Nat.le_of_ble_eq_true rfl, Nat.le_of_ble_eq_true rfl⟩) hS hA hP (fun r_36 H locs hw_36 hP hS => ?_)
                  try dsimp only at hw_36
                  obtain ⟨sv_37, esv_37⟩ : ∃ z : Nat, z = (if dn j_2 - ii_33 < se j_2 + 1 then dn j_2 - ii_33 else se j_2 + 1) := ⟨_, rfl⟩
                  rw [← esv_37] at hw_36
                  subst hw_36
                  have hsv_37 : sv_37 ≤ 3 ∧ sv_37 ≤ dn j_2 - ii_33 ∧ (0 < dn j_2 - ii_33 → 1 ≤ sv_37) := by
                    have hse9 := hse j_2
                    split at esv_37 <;> omega
                  refine lv_iadd hx hb dX8_judge_103 ?_
                  refine lv_ti (y := (nI (ii_33 + sv_37))) (nI_add ii_33 sv_37) ?_
                  refine lv_aload_n hx hb dX8_judge_104 rfl (lv_at hl 1 rfl) ?_
                  refine va_get (D := D) (ci := 8) (v := .int (nI rw)) (C := RX8) (T := TX8) (N := 44) hx hb hts inX8 hown hK hP 1 rfl rfl 30 (by decide) (hts _ tw_1003) (fun _ h9 => h9) rfl dX8_judge_105 ?_
                  refine lv_icmp_gt (tgt := 201) hx hb dX8_judge_108 (by decide) (fun c_38 => ?_) (fun c_38 => ?_)
                  · have c_38 := (nI_ltI (a := rw) (b := (ii_33 + sv_37)) (by omega) (by omega)).mp c_38
                    refine lv_iinc (v := (nI (ii_33 + 1))) (lv' := [(4, .int (nI (ii_33 + 1))), (0, .ref (a 0)), (1, .int (nI j_2)), (2, .int (nI j_4)), (3, .int p2)]) hx hb dX8_judge_201 hl (k := 0) rfl (nI_add ii_33 1) (by decide) rfl (fun ls hl => ?_)
                    refine lv_goto (tgt := 75) hx hb dX8_judge_204 (by decide) ?_
                    exact ih_33 _ (ii_33 + 1) _ _ _ (by omega) ⟨rfl, (by omega), hP, hD, hS, (lv_sub hl [0, 1, 2, 3, 4] rfl)⟩
                  · have c_38 : ¬ (rw < (ii_33 + sv_37)) := fun h => c_38 ((nI_ltI (a := rw) (b := (ii_33 + sv_37)) (by omega) (by omega)).mpr h)
                    refine lv_iconst (v := 0) hx hb dX8_judge_111 (by decide) ?_
                    refine lv_istore (lv' := [(5, .int 0), (4, .int (nI ii_33)), (0, .ref (a 0)), (1, .int (nI j_2)), (2, .int (nI j_4)), (3, .int p2)]) hx hb dX8_judge_112 hl (by decide) rfl (fun ls hl => ?_)
                    refine lv_iconst (v := 0) hx hb dX8_judge_114 (by decide) ?_
                    refine lv_istore (lv' := [(6, .int 0), (5, .int 0), (4, .int (nI ii_33)), (0, .ref (a 0)), (1, .int (nI j_2)), (2, .int (nI j_4)), (3, .int p2)]) hx hb dX8_judge_115 hl (by decide) rfl (fun ls hl => ?_)
                    refine W_loop (σ := Nat × Nat) (fun (n_ : Nat) (x_ : Nat × Nat) (H : Heap) (locs : List Loc) (ls : Array Slot) => match x_ with | (kk_39, g_39) => n_ = 4 - kk_39 ∧ (kk_39 ≤ 3 ∧ g_39 < 8) ∧ va_P D classes [(aZ k (a 32) 24 frow), ((a 0), .inr (8, (fX8 a (nI tx) fp (nI t0) wd (nI we) nu na (nI rd) ts (nI ru) (nI rw) (nI ca) df db sd))), (aI k (a 1) 3 (nF dn)), (aI k (a 4) 27 (sg se tm gs)), (aI k (a 2) 72 ffrees), (aI k (a 3) 72 fprices), (aI k (a 18) 768 fons__32), (aI k (a 19) 768 fworths__32), (aI k (a 20) 5 fstarts__32), (aI k (a 21) 4 fends__32), (aZ k (a 22) 4 fgoesRound__32), (aI k (a 23) 8 fbegin__32)] H ∧ va_D A [(aZ k (a 32) 24 frow), ((a 0), .inr (8, (fX8 a (nI tx) fp (nI t0) wd (nI we) nu na (nI rd) ts (nI ru) (nI rw) (nI ca) df db sd))), (aI k (a 1) 3 (nF dn)), (aI k (a 4) 27 (sg se tm gs)), (aI k (a 2) 72 ffrees), (aI k (a 3) 72 fprices), (aI k (a 18) 768 fons__32), (aI k (a 19) 768 fworths__32), (aI k (a 20) 5 fstarts__32), (aI k (a 21) 4 fends__32), (aZ k (a 22) 4 fgoesRound__32), (aI k (a 23) 8 fbegin__32)] ∧ va_S A s.heap H locs ∧ lv_has ls 7 [(6, .int (nI kk_39)), (5, .int (nI g_39)), (4, .int (nI ii_33)), (0, .ref (a 0)), (1, .int (nI j_2)), (2, .int (nI j_4)), (3, .int p2)]) (fun n_39 x_39 H locs ls hI ih_39 => ?_) _ (0, 0) ⟨rfl, ⟨by omega, by omega⟩, hP, hD, hS, (lv_sub hl [0, 1, 2, 3, 4, 5, 6] rfl)⟩
                    obtain ⟨kk_39, g_39⟩ := x_39
                    obtain ⟨hm_39, hv_39, hP, hD, hS, hl⟩ := hI
                    subst hm_39
                    refine lv_iload hx hb dX8_judge_117 (lv_at hl 0 rfl) ?_
                    refine lv_aload_n hx hb dX8_judge_119 rfl (lv_at hl 3 rfl) ?_
                    refine lv_iload_n hx hb dX8_judge_120 rfl (lv_at hl 4 rfl) ?_
                    refine lv_iload hx hb dX8_judge_121 (lv_at hl 2 rfl) ?_
                    refine ro_i (D := D) (va_runV (As := [.int (nI j_2), .int (nI ii_33)]) (rest := [.int (nI kk_39)]) ⟨hx, hb, hml, hown, hts⟩ ((m_seen l D k st lo a tx t0 we rd ru rw ca fp wd nu na ts df db sd dn se tm gs j_2 ii_33 hdn hse (by omega) (by omega)) H.size) (cwV 2 hts (gV tw_1246 tw_1248 tw_48 tw_87 tw_1249) rfl rfl rfl (by decide +kernel) ⟨Nat.le_of_ble_eq_true rfl, Nat.le_of_ble_eq_true rfl⟩) (pV hS hAlo hlo hP hK (va_Dlo hD hAlo) hZ [1, 2, 3] (by decide) rfl (ci := 8) (q := (RX8, TX8, 44)) (q0 := 0) rfl rfl) rfl rfl hl.1 rfl (lv_room (Nat.le_of_ble_eq_true rfl)) dX8_judge_123 ⟨Nat.le_of_ble_eq_true rfl, Nat.le_of_ble_eq_true rfl⟩) hS hA hP (fun r_40 H locs hw_40 hP hS => ?_)
                    try dsimp only at hw_40
                    obtain ⟨sv_41, esv_41⟩ : ∃ z : Nat, z = (if dn j_2 - ii_33 < se j_2 + 1 then dn j_2 - ii_33 else se j_2 + 1) := ⟨_, rfl⟩
                    rw [← esv_41] at hw_40
                    subst hw_40
                    have hsv_41 : sv_41 ≤ 3 ∧ sv_41 ≤ dn j_2 - ii_33 ∧ (0 < dn j_2 - ii_33 → 1 ≤ sv_41) := by
                      have hse9 := hse j_2
                      split at esv_41 <;> omega
                    refine lv_icmp_ge (tgt := 161) hx hb dX8_judge_126 (by decide) (fun c_42 => ?_) (fun c_42 => ?_)
                    · have c_42 := (nI_leI (a := sv_41) (b := kk_39) (by omega) (by omega)).mp c_42
                      refine lv_iload_n hx hb dX8_judge_161 rfl (lv_at hl 6 rfl) ?_
                      refine lv_if_eq (tgt := 180) hx hb dX8_judge_162 (by decide) (fun c_43 => ?_) (fun c_43 => ?_)
                      · refine lv_iconst (v := 0) hx hb dX8_judge_180 (by decide) ?_
                        refine lv_istore (lv' := [(6, .int 0), (5, .int (nI g_39)), (4, .int (nI ii_33)), (0, .ref (a 0)), (1, .int (nI j_2)), (2, .int (nI j_4)), (3, .int p2)]) hx hb dX8_judge_181 hl (by decide) rfl (fun ls hl => ?_)
                        refine lv_aload_n hx hb dX8_judge_183 rfl (lv_at hl 3 rfl) ?_
                        refine lv_iload_n hx hb dX8_judge_184 rfl (lv_at hl 4 rfl) ?_
                        refine lv_iload_n hx hb dX8_judge_185 rfl (lv_at hl 5 rfl) ?_
                        refine lv_iload hx hb dX8_judge_186 (lv_at hl 2 rfl) ?_
                        refine lv_iload hx hb dX8_judge_188 (lv_at hl 1 rfl) ?_
                        refine ro_i (D := D) (va_runV (As := [.int (nI j_2), .int (nI j_4), .int (nI ii_33), .int (nI g_39)]) (rest := []) ⟨hx, hb, hml, hown, hts⟩ ((m_isTaking l D k st lo a tx t0 we rd ru rw ca fp wd nu na ts df db sd dn se tm gs fprices fons__32 j_2 j_4 ii_33 g_39 (by omega) (by omega) (by omega) (by omega)) H.size) (cwV 4 hts (gV tw_1285 tw_1287 tw_54 tw_87 tw_1288) rfl rfl rfl (by decide +kernel) ⟨Nat.le_of_ble_eq_true rfl, Nat.le_of_ble_eq_true rfl⟩) (pV hS hAlo hlo hP hK (va_Dlo hD hAlo) hZ [1, 2, 3, 5, 6] (by decide) rfl (ci := 8) (q := (RX8, TX8, 44)) (q0 := 0) rfl rfl) rfl rfl hl.1 rfl (lv_room (Nat.le_of_ble_eq_true rfl)) dX8_judge_190 ⟨Nat.le_of_ble_eq_true rfl, Nat.le_of_ble_eq_true rfl⟩) hS hA hP (fun r_44 H locs hw_44 hP hS => ?_)
                        try dsimp only at hw_44
                        refine lv_iload hx hb dX8_judge_193 (lv_at hl 0 rfl) ?_
                        refine lv_icmp_eq (tgt := 201) hx hb dX8_judge_195 (by decide) (fun c_45 => ?_) (fun c_45 => ?_)
                        · refine lv_iinc (v := (nI (ii_33 + 1))) (lv' := [(4, .int (nI (ii_33 + 1))), (6, .int 0), (5, .int (nI g_39)), (0, .ref (a 0)), (1, .int (nI j_2)), (2, .int (nI j_4)), (3, .int p2)]) hx hb dX8_judge_201 hl (k := 2) rfl (nI_add ii_33 1) (by decide) rfl (fun ls hl => ?_)
                          refine lv_goto (tgt := 75) hx hb dX8_judge_204 (by decide) ?_
                          exact ih_33 _ (ii_33 + 1) _ _ _ (by omega) ⟨rfl, (by omega), hP, hD, hS, (lv_sub hl [0, 3, 4, 5, 6] rfl)⟩
                        · refine lv_iload hx hb dX8_judge_198 (lv_at hl 2 rfl) ?_
                          have hP9 := hP.sub (ws' := [((a 0), .inr (8, (fX8 a (nI tx) fp (nI t0) wd (nI we) nu na (nI rd) ts (nI ru) (nI rw) (nI ca) df db sd))), (aI k (a 1) 3 (nF dn)), (aI k (a 4) 27 (sg se tm gs)), (aI k (a 2) 72 ffrees), (aI k (a 3) 72 fprices), (aZ k (a 32) 24 frow), (aI k (a 18) 768 fons__32), (aI k (a 19) 768 fworths__32), (aI k (a 20) 5 fstarts__32), (aI k (a 21) 4 fends__32), (aZ k (a 22) 4 fgoesRound__32), (aI k (a 23) 8 fbegin__32)]) [1, 2, 3, 4, 5, 0, 6, 7, 8, 9, 10, 11] rfl
                          have hD9 := hD.sub (ws' := [((a 0), .inr (8, (fX8 a (nI tx) fp (nI t0) wd (nI we) nu na (nI rd) ts (nI ru) (nI rw) (nI ca) df db sd))), (aI k (a 1) 3 (nF dn)), (aI k (a 4) 27 (sg se tm gs)), (aI k (a 2) 72 ffrees), (aI k (a 3) 72 fprices), (aZ k (a 32) 24 frow), (aI k (a 18) 768 fons__32), (aI k (a 19) 768 fworths__32), (aI k (a 20) 5 fstarts__32), (aI k (a 21) 4 fends__32), (aZ k (a 22) 4 fgoesRound__32), (aI k (a 23) 8 fbegin__32)]) [1, 2, 3, 4, 5, 0, 6, 7, 8, 9, 10, 11] (by decide +kernel) rfl
                          exact W.iret (v := (nI ii_33)) hx hb hr (fun t ht hW => ⟨⟨(nI ii_33), (fons__32, fworths__32, fstarts__32, fends__32, fgoesRound__32, fbegin__32), rfl, trivial, by rw [ht]; exact hP9, hD9⟩, hS.F ht⟩) hS.2.2 dX8_judge_200
                      · refine lv_iload hx hb dX8_judge_165 (lv_at hl 2 rfl) ?_
                        refine lv_aload_n hx hb dX8_judge_167 rfl (lv_at hl 3 rfl) ?_
                        refine va_get (D := D) (ci := 8) (v := .int (nI rw)) (C := RX8) (T := TX8) (N := 44) hx hb hts inX8 hown hK hP 1 rfl rfl 30 (by decide) (hts _ tw_1003) (fun _ h9 => h9) rfl dX8_judge_168 ?_
                        refine lv_iconst (v := 1) hx hb dX8_judge_171 (by decide) ?_
                        refine lv_isub hx hb dX8_judge_172 ?_
                        refine lv_ti (y := (nI (rw - 1))) (pk_sub (a := rw) (b := 1) (by omega)) ?_
                        refine lv_icmp_ne (tgt := 180) hx hb dX8_judge_173 (by decide) (fun c_46 => ?_) (fun c_46 => ?_)
                        · have c_46 : ¬ (ii_33 = (rw - 1)) := fun h => c_46 ((nI_eq (a := ii_33) (b := (rw - 1)) (by omega) (by omega)).mpr h)
                          refine lv_iconst (v := 0) hx hb dX8_judge_180 (by decide) ?_
                          refine lv_istore (lv' := [(6, .int 0), (5, .int (nI g_39)), (4, .int (nI ii_33)), (0, .ref (a 0)), (1, .int (nI j_2)), (2, .int (nI j_4)), (3, .int p2)]) hx hb dX8_judge_181 hl (by decide) rfl (fun ls hl => ?_)
                          refine lv_aload_n hx hb dX8_judge_183 rfl (lv_at hl 3 rfl) ?_
                          refine lv_iload_n hx hb dX8_judge_184 rfl (lv_at hl 4 rfl) ?_
                          refine lv_iload_n hx hb dX8_judge_185 rfl (lv_at hl 5 rfl) ?_
                          refine lv_iload hx hb dX8_judge_186 (lv_at hl 2 rfl) ?_
                          refine lv_iload hx hb dX8_judge_188 (lv_at hl 1 rfl) ?_
                          refine ro_i (D := D) (va_runV (As := [.int (nI j_2), .int (nI j_4), .int (nI ii_33), .int (nI g_39)]) (rest := []) ⟨hx, hb, hml, hown, hts⟩ ((m_isTaking l D k st lo a tx t0 we rd ru rw ca fp wd nu na ts df db sd dn se tm gs fprices fons__32 j_2 j_4 ii_33 g_39 (by omega) (by omega) (by omega) (by omega)) H.size) (cwV 4 hts (gV tw_1285 tw_1287 tw_54 tw_87 tw_1288) rfl rfl rfl (by decide +kernel) ⟨Nat.le_of_ble_eq_true rfl, Nat.le_of_ble_eq_true rfl⟩) (pV hS hAlo hlo hP hK (va_Dlo hD hAlo) hZ [1, 2, 3, 5, 6] (by decide) rfl (ci := 8) (q := (RX8, TX8, 44)) (q0 := 0) rfl rfl) rfl rfl hl.1 rfl (lv_room (Nat.le_of_ble_eq_true rfl)) dX8_judge_190 ⟨Nat.le_of_ble_eq_true rfl, Nat.le_of_ble_eq_true rfl⟩) hS hA hP (fun r_47 H locs hw_47 hP hS => ?_)
                          try dsimp only at hw_47
                          refine lv_iload hx hb dX8_judge_193 (lv_at hl 0 rfl) ?_
                          refine lv_icmp_eq (tgt := 201) hx hb dX8_judge_195 (by decide) (fun c_48 => ?_) (fun c_48 => ?_)
                          · refine lv_iinc (v := (nI (ii_33 + 1))) (lv' := [(4, .int (nI (ii_33 + 1))), (6, .int 0), (5, .int (nI g_39)), (0, .ref (a 0)), (1, .int (nI j_2)), (2, .int (nI j_4)), (3, .int p2)]) hx hb dX8_judge_201 hl (k := 2) rfl (nI_add ii_33 1) (by decide) rfl (fun ls hl => ?_)
                            refine lv_goto (tgt := 75) hx hb dX8_judge_204 (by decide) ?_
                            exact ih_33 _ (ii_33 + 1) _ _ _ (by omega) ⟨rfl, (by omega), hP, hD, hS, (lv_sub hl [0, 3, 4, 5, 6] rfl)⟩
                          · refine lv_iload hx hb dX8_judge_198 (lv_at hl 2 rfl) ?_
                            have hP9 := hP.sub (ws' := [((a 0), .inr (8, (fX8 a (nI tx) fp (nI t0) wd (nI we) nu na (nI rd) ts (nI ru) (nI rw) (nI ca) df db sd))), (aI k (a 1) 3 (nF dn)), (aI k (a 4) 27 (sg se tm gs)), (aI k (a 2) 72 ffrees), (aI k (a 3) 72 fprices), (aZ k (a 32) 24 frow), (aI k (a 18) 768 fons__32), (aI k (a 19) 768 fworths__32), (aI k (a 20) 5 fstarts__32), (aI k (a 21) 4 fends__32), (aZ k (a 22) 4 fgoesRound__32), (aI k (a 23) 8 fbegin__32)]) [1, 2, 3, 4, 5, 0, 6, 7, 8, 9, 10, 11] rfl
                            have hD9 := hD.sub (ws' := [((a 0), .inr (8, (fX8 a (nI tx) fp (nI t0) wd (nI we) nu na (nI rd) ts (nI ru) (nI rw) (nI ca) df db sd))), (aI k (a 1) 3 (nF dn)), (aI k (a 4) 27 (sg se tm gs)), (aI k (a 2) 72 ffrees), (aI k (a 3) 72 fprices), (aZ k (a 32) 24 frow), (aI k (a 18) 768 fons__32), (aI k (a 19) 768 fworths__32), (aI k (a 20) 5 fstarts__32), (aI k (a 21) 4 fends__32), (aZ k (a 22) 4 fgoesRound__32), (aI k (a 23) 8 fbegin__32)]) [1, 2, 3, 4, 5, 0, 6, 7, 8, 9, 10, 11] (by decide +kernel) rfl
                            exact W.iret (v := (nI ii_33)) hx hb hr (fun t ht hW => ⟨⟨(nI ii_33), (fons__32, fworths__32, fstarts__32, fends__32, fgoesRound__32, fbegin__32), rfl, trivial, by rw [ht]; exact hP9, hD9⟩, hS.F ht⟩) hS.2.2 dX8_judge_200
                        · have c_46 := (nI_eq (a := ii_33) (b := (rw - 1)) (by omega) (by omega)).mp c_46
                          refine lv_iconst (v := 1) hx hb dX8_judge_176 (by decide) ?_
                          refine lv_goto (tgt := 181) hx hb dX8_judge_177 (by decide) ?_
                          refine lv_istore (lv' := [(6, .int 1), (5, .int (nI g_39)), (4, .int (nI ii_33)), (0, .ref (a 0)), (1, .int (nI j_2)), (2, .int (nI j_4)), (3, .int p2)]) hx hb dX8_judge_181 hl (by decide) rfl (fun ls hl => ?_)
                          refine lv_aload_n hx hb dX8_judge_183 rfl (lv_at hl 3 rfl) ?_
                          refine lv_iload_n hx hb dX8_judge_184 rfl (lv_at hl 4 rfl) ?_
                          refine lv_iload_n hx hb dX8_judge_185 rfl (lv_at hl 5 rfl) ?_
                          refine lv_iload hx hb dX8_judge_186 (lv_at hl 2 rfl) ?_
                          refine lv_iload hx hb dX8_judge_188 (lv_at hl 1 rfl) ?_
                          refine ro_i (D := D) (va_runV (As := [.int (nI j_2), .int (nI j_4), .int (nI ii_33), .int (nI g_39)]) (rest := []) ⟨hx, hb, hml, hown, hts⟩ ((m_isTaking l D k st lo a tx t0 we rd ru rw ca fp wd nu na ts df db sd dn se tm gs fprices fons__32 j_2 j_4 ii_33 g_39 (by omega) (by omega) (by omega) (by omega)) H.size) (cwV 4 hts (gV tw_1285 tw_1287 tw_54 tw_87 tw_1288) rfl rfl rfl (by decide +kernel) ⟨Nat.le_of_ble_eq_true rfl, Nat.le_of_ble_eq_true rfl⟩) (pV hS hAlo hlo hP hK (va_Dlo hD hAlo) hZ [1, 2, 3, 5, 6] (by decide) rfl (ci := 8) (q := (RX8, TX8, 44)) (q0 := 0) rfl rfl) rfl rfl hl.1 rfl (lv_room (Nat.le_of_ble_eq_true rfl)) dX8_judge_190 ⟨Nat.le_of_ble_eq_true rfl, Nat.le_of_ble_eq_true rfl⟩) hS hA hP (fun r_49 H locs hw_49 hP hS => ?_)
                          try dsimp only at hw_49
                          refine lv_iload hx hb dX8_judge_193 (lv_at hl 0 rfl) ?_
                          refine lv_icmp_eq (tgt := 201) hx hb dX8_judge_195 (by decide) (fun c_50 => ?_) (fun c_50 => ?_)
                          · refine lv_iinc (v := (nI (ii_33 + 1))) (lv' := [(4, .int (nI (ii_33 + 1))), (6, .int 1), (5, .int (nI g_39)), (0, .ref (a 0)), (1, .int (nI j_2)), (2, .int (nI j_4)), (3, .int p2)]) hx hb dX8_judge_201 hl (k := 2) rfl (nI_add ii_33 1) (by decide) rfl (fun ls hl => ?_)
                            refine lv_goto (tgt := 75) hx hb dX8_judge_204 (by decide) ?_
                            exact ih_33 _ (ii_33 + 1) _ _ _ (by omega) ⟨rfl, (by omega), hP, hD, hS, (lv_sub hl [0, 3, 4, 5, 6] rfl)⟩
                          · refine lv_iload hx hb dX8_judge_198 (lv_at hl 2 rfl) ?_
                            have hP9 := hP.sub (ws' := [((a 0), .inr (8, (fX8 a (nI tx) fp (nI t0) wd (nI we) nu na (nI rd) ts (nI ru) (nI rw) (nI ca) df db sd))), (aI k (a 1) 3 (nF dn)), (aI k (a 4) 27 (sg se tm gs)), (aI k (a 2) 72 ffrees), (aI k (a 3) 72 fprices), (aZ k (a 32) 24 frow), (aI k (a 18) 768 fons__32), (aI k (a 19) 768 fworths__32), (aI k (a 20) 5 fstarts__32), (aI k (a 21) 4 fends__32), (aZ k (a 22) 4 fgoesRound__32), (aI k (a 23) 8 fbegin__32)]) [1, 2, 3, 4, 5, 0, 6, 7, 8, 9, 10, 11] rfl
                            have hD9 := hD.sub (ws' := [((a 0), .inr (8, (fX8 a (nI tx) fp (nI t0) wd (nI we) nu na (nI rd) ts (nI ru) (nI rw) (nI ca) df db sd))), (aI k (a 1) 3 (nF dn)), (aI k (a 4) 27 (sg se tm gs)), (aI k (a 2) 72 ffrees), (aI k (a 3) 72 fprices), (aZ k (a 32) 24 frow), (aI k (a 18) 768 fons__32), (aI k (a 19) 768 fworths__32), (aI k (a 20) 5 fstarts__32), (aI k (a 21) 4 fends__32), (aZ k (a 22) 4 fgoesRound__32), (aI k (a 23) 8 fbegin__32)]) [1, 2, 3, 4, 5, 0, 6, 7, 8, 9, 10, 11] (by decide +kernel) rfl
                            exact W.iret (v := (nI ii_33)) hx hb hr (fun t ht hW => ⟨⟨(nI ii_33), (fons__32, fworths__32, fstarts__32, fends__32, fgoesRound__32, fbegin__32), rfl, trivial, by rw [ht]; exact hP9, hD9⟩, hS.F ht⟩) hS.2.2 dX8_judge_200
                    · have c_42 : ¬ (sv_41 ≤ kk_39) := fun h => c_42 ((nI_leI (a := sv_41) (b := kk_39) (by omega) (by omega)).mpr h)
                      refine lv_iload hx hb dX8_judge_129 (lv_at hl 1 rfl) ?_
                      refine lv_aload_n hx hb dX8_judge_131 rfl (lv_at hl 3 rfl) ?_
                      refine va_get (D := D) (ci := 8) (v := .ref (a 32)) (C := RX8) (T := TX8) (N := 44) hx hb hts inX8 hown hK hP 1 rfl rfl 31 (by decide) (hts _ tw_1004) (fun _ h9 => h9) rfl dX8_judge_132 ?_
                      refine lv_iload hx hb dX8_judge_135 (lv_at hl 2 rfl) ?_
                      refine lv_iload hx hb dX8_judge_137 (lv_at hl 0 rfl) ?_
                      refine lv_iadd hx hb dX8_judge_139 ?_
                      refine lv_ti (y := (nI (ii_33 + kk_39))) (nI_add ii_33 kk_39) ?_
                      refine va_zald hx hb hK hP 0 2 rfl rfl (vp_in_nI (by omega) (by decide)) dX8_judge_140 ?_
                      refine lv_ti (y := (frow (ii_33 + kk_39))) (by rw [nI_clamp (by omega)]) ?_
                      refine lv_if_eq (tgt := 151) hx hb dX8_judge_141 (by decide) (fun c_51 => ?_) (fun c_51 => ?_)
                      · refine lv_iconst (v := 0) hx hb dX8_judge_151 (by decide) ?_
                        obtain ⟨ov_52, hov_52, eov_52⟩ := or8 g_39 (by omega) 0 (by omega)
                        refine lv_ior hx hb dX8_judge_152 ?_
                        refine lv_ti (y := (nI ov_52)) eov_52 ?_
                        refine lv_istore (lv' := [(5, .int (nI ov_52)), (6, .int (nI kk_39)), (4, .int (nI ii_33)), (0, .ref (a 0)), (1, .int (nI j_2)), (2, .int (nI j_4)), (3, .int p2)]) hx hb dX8_judge_153 hl (by decide) rfl (fun ls hl => ?_)
                        refine lv_iinc (v := (nI (kk_39 + 1))) (lv' := [(6, .int (nI (kk_39 + 1))), (5, .int (nI ov_52)), (4, .int (nI ii_33)), (0, .ref (a 0)), (1, .int (nI j_2)), (2, .int (nI j_4)), (3, .int p2)]) hx hb dX8_judge_155 hl (k := 1) rfl (nI_add kk_39 1) (by decide) rfl (fun ls hl => ?_)
                        refine lv_goto (tgt := 117) hx hb dX8_judge_158 (by decide) ?_
                        exact ih_39 _ (kk_39 + 1, ov_52) _ _ _ (by omega) ⟨rfl, ⟨by omega, by omega⟩, hP, hD, hS, (lv_sub hl [0, 1, 2, 3, 4, 5, 6] rfl)⟩
                      · refine lv_iconst (v := 1) hx hb dX8_judge_144 (by decide) ?_
                        refine lv_iload hx hb dX8_judge_145 (lv_at hl 0 rfl) ?_
                        obtain ⟨pw_53, epw_53⟩ : ∃ z : Nat, z = 2 ^ kk_39 := ⟨_, rfl⟩
                        have hpw_53 : 1 ≤ pw_53 ∧ pw_53 ≤ 4 := by rw [epw_53]; exact pw4 (by omega)
                        refine lv_ishl hx hb dX8_judge_147 ?_
                        refine lv_ti (y := (nI pw_53)) (by rw [epw_53]; exact shl1 kk_39 (by omega)) ?_
                        refine lv_goto (tgt := 152) hx hb dX8_judge_148 (by decide) ?_
                        obtain ⟨ov_54, hov_54, eov_54⟩ := or8 g_39 (by omega) pw_53 (by omega)
                        refine lv_ior hx hb dX8_judge_152 ?_
                        refine lv_ti (y := (nI ov_54)) eov_54 ?_
                        refine lv_istore (lv' := [(5, .int (nI ov_54)), (6, .int (nI kk_39)), (4, .int (nI ii_33)), (0, .ref (a 0)), (1, .int (nI j_2)), (2, .int (nI j_4)), (3, .int p2)]) hx hb dX8_judge_153 hl (by decide) rfl (fun ls hl => ?_)
                        refine lv_iinc (v := (nI (kk_39 + 1))) (lv' := [(6, .int (nI (kk_39 + 1))), (5, .int (nI ov_54)), (4, .int (nI ii_33)), (0, .ref (a 0)), (1, .int (nI j_2)), (2, .int (nI j_4)), (3, .int p2)]) hx hb dX8_judge_155 hl (k := 1) rfl (nI_add kk_39 1) (by decide) rfl (fun ls hl => ?_)
                        refine lv_goto (tgt := 117) hx hb dX8_judge_158 (by decide) ?_
                        exact ih_39 _ (kk_39 + 1, ov_54) _ _ _ (by omega) ⟨rfl, ⟨by omega, by omega⟩, hP, hD, hS, (lv_sub hl [0, 1, 2, 3, 4, 5, 6] rfl)⟩
            · refine lv_sipush (v := (-1003)) hx hb dX8_judge_63 (by decide) ?_
              have hP9 := hP.sub (ws' := [((a 0), .inr (8, (fX8 a (nI tx) fp (nI t0) wd (nI we) nu na (nI rd) ts (nI ru) (nI rw) (nI ca) df db sd))), (aI k (a 1) 3 (nF dn)), (aI k (a 4) 27 (sg se tm gs)), (aI k (a 2) 72 ffrees), (aI k (a 3) 72 fprices), (aZ k (a 32) 24 frow), (aI k (a 18) 768 fons), (aI k (a 19) 768 fworths), (aI k (a 20) 5 fstarts), (aI k (a 21) 4 fends), (aZ k (a 22) 4 fgoesRound), (aI k (a 23) 8 fbegin)]) [0, 1, 2, 3, 4, 5, 6, 7, 8, 9, 10, 11] rfl
              have hD9 := hD.sub (ws' := [((a 0), .inr (8, (fX8 a (nI tx) fp (nI t0) wd (nI we) nu na (nI rd) ts (nI ru) (nI rw) (nI ca) df db sd))), (aI k (a 1) 3 (nF dn)), (aI k (a 4) 27 (sg se tm gs)), (aI k (a 2) 72 ffrees), (aI k (a 3) 72 fprices), (aZ k (a 32) 24 frow), (aI k (a 18) 768 fons), (aI k (a 19) 768 fworths), (aI k (a 20) 5 fstarts), (aI k (a 21) 4 fends), (aZ k (a 22) 4 fgoesRound), (aI k (a 23) 8 fbegin)]) [0, 1, 2, 3, 4, 5, 6, 7, 8, 9, 10, 11] (by decide +kernel) rfl
              exact W.iret (v := (-1003)) hx hb hr (fun t ht hW => ⟨⟨(-1003), (fons, fworths, fstarts, fends, fgoesRound, fbegin), rfl, trivial, by rw [ht]; exact hP9, hD9⟩, hS.F ht⟩) hS.2.2 dX8_judge_66
    · refine lv_if_ne (tgt := 25) hx hb dX8_judge_18 (by decide) (fun h => absurd (by decide) h) (fun _ => ?_)
      refine lv_sipush (v := (-1002)) hx hb dX8_judge_21 (by decide) ?_
      have hP9 := hP.sub (ws' := [((a 0), .inr (8, (fX8 a (nI tx) fp (nI t0) wd (nI we) nu na (nI rd) ts (nI ru) (nI rw) (nI ca) df db sd))), (aI k (a 1) 3 (nF dn)), (aI k (a 4) 27 (sg se tm gs)), (aI k (a 2) 72 ffrees), (aI k (a 3) 72 fprices), (aZ k (a 32) 24 frow), (aI k (a 18) 768 fons), (aI k (a 19) 768 fworths), (aI k (a 20) 5 fstarts), (aI k (a 21) 4 fends), (aZ k (a 22) 4 fgoesRound), (aI k (a 23) 8 fbegin)]) [0, 1, 2, 3, 4, 5, 6, 7, 8, 9, 10, 11] rfl
      have hD9 := hD.sub (ws' := [((a 0), .inr (8, (fX8 a (nI tx) fp (nI t0) wd (nI we) nu na (nI rd) ts (nI ru) (nI rw) (nI ca) df db sd))), (aI k (a 1) 3 (nF dn)), (aI k (a 4) 27 (sg se tm gs)), (aI k (a 2) 72 ffrees), (aI k (a 3) 72 fprices), (aZ k (a 32) 24 frow), (aI k (a 18) 768 fons), (aI k (a 19) 768 fworths), (aI k (a 20) 5 fstarts), (aI k (a 21) 4 fends), (aZ k (a 22) 4 fgoesRound), (aI k (a 23) 8 fbegin)]) [0, 1, 2, 3, 4, 5, 6, 7, 8, 9, 10, 11] (by decide +kernel) rfl
      exact W.iret (v := (-1002)) hx hb hr (fun t ht hW => ⟨⟨(-1002), (fons, fworths, fstarts, fends, fgoesRound, fbegin), rfl, trivial, by rw [ht]; exact hP9, hD9⟩, hS.F ht⟩) hS.2.2 dX8_judge_24
  · refine lv_if_ne (tgt := 12) hx hb dX8_judge_5 (by decide) (fun h => absurd (by decide) h) (fun _ => ?_)
    refine lv_sipush (v := (-1001)) hx hb dX8_judge_8 (by decide) ?_
    have hP9 := hP.sub (ws' := [((a 0), .inr (8, (fX8 a (nI tx) fp (nI t0) wd (nI we) nu na (nI rd) ts (nI ru) (nI rw) (nI ca) df db sd))), (aI k (a 1) 3 (nF dn)), (aI k (a 4) 27 (sg se tm gs)), (aI k (a 2) 72 ffrees), (aI k (a 3) 72 fprices), (aZ k (a 32) 24 frow), (aI k (a 18) 768 fons), (aI k (a 19) 768 fworths), (aI k (a 20) 5 fstarts), (aI k (a 21) 4 fends), (aZ k (a 22) 4 fgoesRound), (aI k (a 23) 8 fbegin)]) [0, 1, 2, 3, 4, 5, 6, 7, 8, 9, 10, 11] rfl
    have hD9 := hD.sub (ws' := [((a 0), .inr (8, (fX8 a (nI tx) fp (nI t0) wd (nI we) nu na (nI rd) ts (nI ru) (nI rw) (nI ca) df db sd))), (aI k (a 1) 3 (nF dn)), (aI k (a 4) 27 (sg se tm gs)), (aI k (a 2) 72 ffrees), (aI k (a 3) 72 fprices), (aZ k (a 32) 24 frow), (aI k (a 18) 768 fons), (aI k (a 19) 768 fworths), (aI k (a 20) 5 fstarts), (aI k (a 21) 4 fends), (aZ k (a 22) 4 fgoesRound), (aI k (a 23) 8 fbegin)]) [0, 1, 2, 3, 4, 5, 6, 7, 8, 9, 10, 11] (by decide +kernel) rfl
    exact W.iret (v := (-1001)) hx hb hr (fun t ht hW => ⟨⟨(-1001), (fons, fworths, fstarts, fends, fgoesRound, fbegin), rfl, trivial, by rw [ht]; exact hP9, hD9⟩, hS.F ht⟩) hS.2.2 dX8_judge_11


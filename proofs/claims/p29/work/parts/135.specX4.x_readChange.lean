theorem f_x_readChange_rows : True := trivial
theorem dX3_readChange_0 : decode cX3_readChange 0 = .ok (.aload_n 1, 1) := by decide +kernel
theorem dX3_readChange_1 : decode cX3_readChange 1 = .ok (.iconst 1, 1) := by decide +kernel
theorem dX3_readChange_2 : decode cX3_readChange 2 = .ok (.bipush 24, 2) := by decide +kernel
theorem dX3_readChange_4 : decode cX3_readChange 4 = .ok (.invokevirtual 35, 3) := by decide +kernel
theorem dX3_readChange_7 : decode cX3_readChange 7 = .ok (.istore_n 2, 1) := by decide +kernel
theorem dX3_readChange_8 : decode cX3_readChange 8 = .ok (.aload_n 1, 1) := by decide +kernel
theorem dX3_readChange_9 : decode cX3_readChange 9 = .ok (.invokevirtual 39, 3) := by decide +kernel
theorem dX3_readChange_12 : decode cX3_readChange 12 = .ok (.ifCond .ne 34, 3) := by decide +kernel
theorem dX3_readChange_15 : decode cX3_readChange 15 = .ok (.aload_n 0, 1) := by decide +kernel
theorem dX3_readChange_16 : decode cX3_readChange 16 = .ok (.getfield 22, 3) := by decide +kernel
theorem dX3_readChange_19 : decode cX3_readChange 19 = .ok (.ifCond .le 27, 3) := by decide +kernel
theorem dX3_readChange_22 : decode cX3_readChange 22 = .ok (.iload_n 2, 1) := by decide +kernel
theorem dX3_readChange_23 : decode cX3_readChange 23 = .ok (.aload_n 0, 1) := by decide +kernel
theorem dX3_readChange_24 : decode cX3_readChange 24 = .ok (.getfield 9, 3) := by decide +kernel
theorem dX3_readChange_27 : decode cX3_readChange 27 = .ok (.aload_n 0, 1) := by decide +kernel
theorem dX3_readChange_28 : decode cX3_readChange 28 = .ok (.getfield 22, 3) := by decide +kernel
theorem dX3_readChange_31 : decode cX3_readChange 31 = .ok (.iconst 1, 1) := by decide +kernel
theorem dX3_readChange_32 : decode cX3_readChange 32 = .ok (.isub, 1) := by decide +kernel
theorem dX3_readChange_33 : decode cX3_readChange 33 = .ok (.iaload, 1) := by decide +kernel
theorem dX3_readChange_34 : decode cX3_readChange 34 = .ok (.if_icmp .gt 12, 3) := by decide +kernel
theorem dX3_readChange_37 : decode cX3_readChange 37 = .ok (.aload_n 1, 1) := by decide +kernel
theorem dX3_readChange_38 : decode cX3_readChange 38 = .ok (.iconst 3, 1) := by decide +kernel
theorem dX3_readChange_39 : decode cX3_readChange 39 = .ok (.aload_n 1, 1) := by decide +kernel
theorem dX3_readChange_40 : decode cX3_readChange 40 = .ok (.getfield 67, 3) := by decide +kernel
theorem dX3_readChange_43 : decode cX3_readChange 43 = .ok (.invokevirtual 63, 3) := by decide +kernel
theorem dX3_readChange_46 : decode cX3_readChange 46 = .ok (.aload_n 1, 1) := by decide +kernel
theorem dX3_readChange_47 : decode cX3_readChange 47 = .ok (.ldc 28, 2) := by decide +kernel
theorem dX3_readChange_49 : decode cX3_readChange 49 = .ok (.invokevirtual 29, 3) := by decide +kernel
theorem dX3_readChange_52 : decode cX3_readChange 52 = .ok (.aload_n 1, 1) := by decide +kernel
theorem dX3_readChange_53 : decode cX3_readChange 53 = .ok (.iconst 0, 1) := by decide +kernel
theorem dX3_readChange_54 : decode cX3_readChange 54 = .ok (.bipush 24, 2) := by decide +kernel
theorem dX3_readChange_56 : decode cX3_readChange 56 = .ok (.invokevirtual 35, 3) := by decide +kernel
theorem dX3_readChange_59 : decode cX3_readChange 59 = .ok (.istore_n 3, 1) := by decide +kernel
theorem dX3_readChange_60 : decode cX3_readChange 60 = .ok (.aload_n 1, 1) := by decide +kernel
theorem dX3_readChange_61 : decode cX3_readChange 61 = .ok (.invokevirtual 39, 3) := by decide +kernel
theorem dX3_readChange_64 : decode cX3_readChange 64 = .ok (.ifCond .ne 42, 3) := by decide +kernel
theorem dX3_readChange_67 : decode cX3_readChange 67 = .ok (.aload_n 0, 1) := by decide +kernel
theorem dX3_readChange_68 : decode cX3_readChange 68 = .ok (.getfield 22, 3) := by decide +kernel
theorem dX3_readChange_71 : decode cX3_readChange 71 = .ok (.bipush 24, 2) := by decide +kernel
theorem dX3_readChange_73 : decode cX3_readChange 73 = .ok (.if_icmp .ge 33, 3) := by decide +kernel
theorem dX3_readChange_76 : decode cX3_readChange 76 = .ok (.aload_n 0, 1) := by decide +kernel
theorem dX3_readChange_77 : decode cX3_readChange 77 = .ok (.getfield 9, 3) := by decide +kernel
theorem dX3_readChange_80 : decode cX3_readChange 80 = .ok (.aload_n 0, 1) := by decide +kernel
theorem dX3_readChange_81 : decode cX3_readChange 81 = .ok (.getfield 22, 3) := by decide +kernel
theorem dX3_readChange_84 : decode cX3_readChange 84 = .ok (.iload_n 2, 1) := by decide +kernel
theorem dX3_readChange_85 : decode cX3_readChange 85 = .ok (.iastore, 1) := by decide +kernel
theorem dX3_readChange_86 : decode cX3_readChange 86 = .ok (.aload_n 0, 1) := by decide +kernel
theorem dX3_readChange_87 : decode cX3_readChange 87 = .ok (.getfield 15, 3) := by decide +kernel
theorem dX3_readChange_90 : decode cX3_readChange 90 = .ok (.aload_n 0, 1) := by decide +kernel
theorem dX3_readChange_91 : decode cX3_readChange 91 = .ok (.getfield 22, 3) := by decide +kernel
theorem dX3_readChange_94 : decode cX3_readChange 94 = .ok (.iload_n 3, 1) := by decide +kernel
theorem dX3_readChange_95 : decode cX3_readChange 95 = .ok (.iastore, 1) := by decide +kernel
theorem dX3_readChange_96 : decode cX3_readChange 96 = .ok (.aload_n 0, 1) := by decide +kernel
theorem dX3_readChange_97 : decode cX3_readChange 97 = .ok (.dup, 1) := by decide +kernel
theorem dX3_readChange_98 : decode cX3_readChange 98 = .ok (.getfield 22, 3) := by decide +kernel
theorem dX3_readChange_101 : decode cX3_readChange 101 = .ok (.iconst 1, 1) := by decide +kernel
theorem dX3_readChange_102 : decode cX3_readChange 102 = .ok (.iadd, 1) := by decide +kernel
theorem dX3_readChange_103 : decode cX3_readChange 103 = .ok (.putfield 22, 3) := by decide +kernel
theorem dX3_readChange_106 : decode cX3_readChange 106 = .ok (.return_, 1) := by decide +kernel
theorem f_x_Rule_readFrom_rows : True := trivial
theorem dX3_readFrom_0 : decode cX3_readFrom 0 = .ok (.aload_n 0, 1) := by decide +kernel
theorem dX3_readFrom_1 : decode cX3_readFrom 1 = .ok (.iconst 0, 1) := by decide +kernel
theorem dX3_readFrom_2 : decode cX3_readFrom 2 = .ok (.putfield 22, 3) := by decide +kernel
theorem dX3_readFrom_5 : decode cX3_readFrom 5 = .ok (.aload_n 0, 1) := by decide +kernel
theorem dX3_readFrom_6 : decode cX3_readFrom 6 = .ok (.iconst 0, 1) := by decide +kernel
theorem dX3_readFrom_7 : decode cX3_readFrom 7 = .ok (.putfield 25, 3) := by decide +kernel
theorem dX3_readFrom_10 : decode cX3_readFrom 10 = .ok (.aload_n 1, 1) := by decide +kernel
theorem dX3_readFrom_11 : decode cX3_readFrom 11 = .ok (.ldc 28, 2) := by decide +kernel
theorem dX3_readFrom_13 : decode cX3_readFrom 13 = .ok (.invokevirtual 29, 3) := by decide +kernel
theorem dX3_readFrom_16 : decode cX3_readFrom 16 = .ok (.aload_n 0, 1) := by decide +kernel
theorem dX3_readFrom_17 : decode cX3_readFrom 17 = .ok (.aload_n 1, 1) := by decide +kernel
theorem dX3_readFrom_18 : decode cX3_readFrom 18 = .ok (.iconst 0, 1) := by decide +kernel
theorem dX3_readFrom_19 : decode cX3_readFrom 19 = .ok (.bipush 24, 2) := by decide +kernel
theorem dX3_readFrom_21 : decode cX3_readFrom 21 = .ok (.invokevirtual 35, 3) := by decide +kernel
theorem dX3_readFrom_24 : decode cX3_readFrom 24 = .ok (.putfield 18, 3) := by decide +kernel
theorem dX3_readFrom_27 : decode cX3_readFrom 27 = .ok (.iconst 0, 1) := by decide +kernel
theorem dX3_readFrom_28 : decode cX3_readFrom 28 = .ok (.istore_n 2, 1) := by decide +kernel
theorem dX3_readFrom_29 : decode cX3_readFrom 29 = .ok (.iload_n 2, 1) := by decide +kernel
theorem dX3_readFrom_30 : decode cX3_readFrom 30 = .ok (.bipush 24, 2) := by decide +kernel
theorem dX3_readFrom_32 : decode cX3_readFrom 32 = .ok (.if_icmp .ge 30, 3) := by decide +kernel
theorem dX3_readFrom_35 : decode cX3_readFrom 35 = .ok (.aload_n 1, 1) := by decide +kernel
theorem dX3_readFrom_36 : decode cX3_readFrom 36 = .ok (.invokevirtual 39, 3) := by decide +kernel
theorem dX3_readFrom_39 : decode cX3_readFrom 39 = .ok (.ifCond .ne 23, 3) := by decide +kernel
theorem dX3_readFrom_42 : decode cX3_readFrom 42 = .ok (.aload_n 1, 1) := by decide +kernel
theorem dX3_readFrom_43 : decode cX3_readFrom 43 = .ok (.ldc 43, 2) := by decide +kernel
theorem dX3_readFrom_45 : decode cX3_readFrom 45 = .ok (.invokevirtual 44, 3) := by decide +kernel
theorem dX3_readFrom_48 : decode cX3_readFrom 48 = .ok (.ifCond .eq 14, 3) := by decide +kernel
theorem dX3_readFrom_51 : decode cX3_readFrom 51 = .ok (.aload_n 0, 1) := by decide +kernel
theorem dX3_readFrom_52 : decode cX3_readFrom 52 = .ok (.aload_n 1, 1) := by decide +kernel
theorem dX3_readFrom_53 : decode cX3_readFrom 53 = .ok (.invokevirtual 48, 3) := by decide +kernel
theorem dX3_readFrom_56 : decode cX3_readFrom 56 = .ok (.iinc 2 1, 3) := by decide +kernel
theorem dX3_readFrom_59 : decode cX3_readFrom 59 = .ok (.goto (-30), 3) := by decide +kernel
theorem dX3_readFrom_62 : decode cX3_readFrom 62 = .ok (.aload_n 1, 1) := by decide +kernel
theorem dX3_readFrom_63 : decode cX3_readFrom 63 = .ok (.invokevirtual 39, 3) := by decide +kernel
theorem dX3_readFrom_66 : decode cX3_readFrom 66 = .ok (.ifCond .ne 27, 3) := by decide +kernel
theorem dX3_readFrom_69 : decode cX3_readFrom 69 = .ok (.aload_n 1, 1) := by decide +kernel
theorem dX3_readFrom_70 : decode cX3_readFrom 70 = .ok (.ldc 52, 2) := by decide +kernel
theorem dX3_readFrom_72 : decode cX3_readFrom 72 = .ok (.invokevirtual 44, 3) := by decide +kernel
theorem dX3_readFrom_75 : decode cX3_readFrom 75 = .ok (.ifCond .eq 18, 3) := by decide +kernel
theorem dX3_readFrom_78 : decode cX3_readFrom 78 = .ok (.aload_n 0, 1) := by decide +kernel
theorem dX3_readFrom_79 : decode cX3_readFrom 79 = .ok (.aload_n 1, 1) := by decide +kernel
theorem dX3_readFrom_80 : decode cX3_readFrom 80 = .ok (.iconst 0, 1) := by decide +kernel
theorem dX3_readFrom_81 : decode cX3_readFrom 81 = .ok (.getstatic 54, 3) := by decide +kernel
theorem dX3_readFrom_84 : decode cX3_readFrom 84 = .ok (.bipush 8, 2) := by decide +kernel
theorem dX3_readFrom_86 : decode cX3_readFrom 86 = .ok (.iaload, 1) := by decide +kernel
theorem dX3_readFrom_87 : decode cX3_readFrom 87 = .ok (.invokevirtual 35, 3) := by decide +kernel
theorem dX3_readFrom_90 : decode cX3_readFrom 90 = .ok (.putfield 25, 3) := by decide +kernel
theorem dX3_readFrom_93 : decode cX3_readFrom 93 = .ok (.aload_n 1, 1) := by decide +kernel
theorem dX3_readFrom_94 : decode cX3_readFrom 94 = .ok (.invokevirtual 39, 3) := by decide +kernel
theorem dX3_readFrom_97 : decode cX3_readFrom 97 = .ok (.ifCond .ne 19, 3) := by decide +kernel
theorem dX3_readFrom_100 : decode cX3_readFrom 100 = .ok (.aload_n 1, 1) := by decide +kernel
theorem dX3_readFrom_101 : decode cX3_readFrom 101 = .ok (.invokevirtual 57, 3) := by decide +kernel
theorem dX3_readFrom_104 : decode cX3_readFrom 104 = .ok (.ifCond .ne 12, 3) := by decide +kernel
theorem dX3_readFrom_107 : decode cX3_readFrom 107 = .ok (.aload_n 1, 1) := by decide +kernel
theorem dX3_readFrom_108 : decode cX3_readFrom 108 = .ok (.iconst 1, 1) := by decide +kernel
theorem dX3_readFrom_109 : decode cX3_readFrom 109 = .ok (.aload_n 1, 1) := by decide +kernel
theorem dX3_readFrom_110 : decode cX3_readFrom 110 = .ok (.getfield 60, 3) := by decide +kernel
theorem dX3_readFrom_113 : decode cX3_readFrom 113 = .ok (.invokevirtual 63, 3) := by decide +kernel
theorem dX3_readFrom_116 : decode cX3_readFrom 116 = .ok (.return_, 1) := by decide +kernel
theorem f_x_barAfter_rows : True := trivial
theorem dX3_barAfter_0 : decode cX3_barAfter 0 = .ok (.aload_n 0, 1) := by decide +kernel
theorem dX3_barAfter_1 : decode cX3_barAfter 1 = .ok (.getfield 22, 3) := by decide +kernel
theorem dX3_barAfter_4 : decode cX3_barAfter 4 = .ok (.iconst 1, 1) := by decide +kernel
theorem dX3_barAfter_5 : decode cX3_barAfter 5 = .ok (.isub, 1) := by decide +kernel
theorem dX3_barAfter_6 : decode cX3_barAfter 6 = .ok (.istore_n 2, 1) := by decide +kernel
theorem dX3_barAfter_7 : decode cX3_barAfter 7 = .ok (.iload_n 2, 1) := by decide +kernel
theorem dX3_barAfter_8 : decode cX3_barAfter 8 = .ok (.ifCond .lt 26, 3) := by decide +kernel
theorem dX3_barAfter_11 : decode cX3_barAfter 11 = .ok (.aload_n 0, 1) := by decide +kernel
theorem dX3_barAfter_12 : decode cX3_barAfter 12 = .ok (.getfield 9, 3) := by decide +kernel
theorem dX3_barAfter_15 : decode cX3_barAfter 15 = .ok (.iload_n 2, 1) := by decide +kernel
theorem dX3_barAfter_16 : decode cX3_barAfter 16 = .ok (.iaload, 1) := by decide +kernel
theorem dX3_barAfter_17 : decode cX3_barAfter 17 = .ok (.iload_n 1, 1) := by decide +kernel
theorem dX3_barAfter_18 : decode cX3_barAfter 18 = .ok (.if_icmp .gt 10, 3) := by decide +kernel
theorem dX3_barAfter_21 : decode cX3_barAfter 21 = .ok (.aload_n 0, 1) := by decide +kernel
theorem dX3_barAfter_22 : decode cX3_barAfter 22 = .ok (.getfield 15, 3) := by decide +kernel
theorem dX3_barAfter_25 : decode cX3_barAfter 25 = .ok (.iload_n 2, 1) := by decide +kernel
theorem dX3_barAfter_26 : decode cX3_barAfter 26 = .ok (.iaload, 1) := by decide +kernel
theorem dX3_barAfter_27 : decode cX3_barAfter 27 = .ok (.ireturn, 1) := by decide +kernel
theorem dX3_barAfter_28 : decode cX3_barAfter 28 = .ok (.iinc 2 (-1), 3) := by decide +kernel
theorem dX3_barAfter_31 : decode cX3_barAfter 31 = .ok (.goto (-24), 3) := by decide +kernel
theorem dX3_barAfter_34 : decode cX3_barAfter 34 = .ok (.aload_n 0, 1) := by decide +kernel
theorem dX3_barAfter_35 : decode cX3_barAfter 35 = .ok (.getfield 18, 3) := by decide +kernel
theorem dX3_barAfter_38 : decode cX3_barAfter 38 = .ok (.ireturn, 1) := by decide +kernel
theorem dX3_roundsIn_0 : decode cX3_roundsIn 0 = .ok (.aload_n 0, 1) := by decide +kernel
theorem dX3_roundsIn_1 : decode cX3_roundsIn 1 = .ok (.getfield 25, 3) := by decide +kernel
theorem dX3_roundsIn_4 : decode cX3_roundsIn 4 = .ok (.aload_n 1, 1) := by decide +kernel
theorem dX3_roundsIn_5 : decode cX3_roundsIn 5 = .ok (.getfield 70, 3) := by decide +kernel
theorem dX3_roundsIn_8 : decode cX3_roundsIn 8 = .ok (.bipush 8, 2) := by decide +kernel
theorem dX3_roundsIn_10 : decode cX3_roundsIn 10 = .ok (.iaload, 1) := by decide +kernel
theorem dX3_roundsIn_11 : decode cX3_roundsIn 11 = .ok (.invokestatic 75, 3) := by decide +kernel
theorem dX3_roundsIn_14 : decode cX3_roundsIn 14 = .ok (.ireturn, 1) := by decide +kernel
set_option maxHeartbeats 4000000 in
set_option maxRecDepth 100000 in
theorem x_roundsIn (l : Launch) (D : va_G) (k : Nat → ClassId) (st : Nat → Nat) (lo : Nat) (u0 : Nat) (u1 : Nat) (u2 : Nat) (rf : Int32) (rc : Nat) (rr : Nat) (h0 : Nat) (h1 : Nat) (h2 : Nat) (h3 : Nat) (h4 : Nat) (n : Nat) (see : Nat) (tm : Nat) (g : Nat → Int32) (hrr : rr ≤ 3) (htm9 : tm ≤ 3) : CRi l D k st lo yX3_roundsIn cX3_roundsIn 2 (some .int) ({ frames := 1, cells := 0, slots := 0, locals := 60 }) [.ref u0, .ref h0] [(u0, .inr (3, (fX3 u1 u2 rf (nI rc) (nI rr)))), (h0, .inr (5, (fX5 h1 h2 h3 h4))), (aI k h1 10 (vv n see tm g))] (fun r => r = nI (min rr tm)) := by
  intro sz
  refine Met.ofW (cc := cX3_roundsIn) (maxL := 2) (ret := (some .int)) (by decide) rfl ?_
  intro p e s m args below meth c s₁ B hml hv
  obtain ⟨rfl, hsz, hlo, hP, hK, hDL, hZ⟩ := hv
  have hx := B.exec
  have hb := B.bytes
  have hr := B.returns
  have hts := WS_ts B.pre
  have hown : s.vm.findClass RX3 = some m.cls := findClass_of_methodNamed B.named
  have hlocks := B.notSynchronized
  subst hsz
  have hA : ∀ q : Nat, s.heap.size ≤ q → (fun q : Nat => s.heap.size ≤ q) q := fun _ h => h
  have hAlo : ∀ q : Nat, (fun q : Nat => s.heap.size ≤ q) q → lo ≤ q := fun q h => Nat.le_trans hlo h
  have hS : va_S (fun q : Nat => s.heap.size ≤ q) s.heap s.heap [] := va_S.rf
  have hl := lv_entry ([.ref u0, .ref h0]) (n := 2) (Nat.le_of_ble_eq_true rfl)
  rw [lg_entry_eq]
  generalize (lg_sl ([.ref u0, .ref h0]) ++ List.replicate (2 - (lg_sl ([.ref u0, .ref h0])).length) Slot.unset).toArray = ls at hl ⊢
  have hl : lv_has ls 2 [(0, .ref u0), (1, .ref h0)] := hl
  refine lv_aload_n hx hb dX3_roundsIn_0 rfl (lv_at hl 0 rfl) ?_
  refine va_get (D := D) (ci := 3) (v := .int (nI rr)) (C := RX3) (T := TX3) (N := 5) hx hb hts inX3 hown hK hP 0 rfl rfl 4 (by decide) (hts _ tw_293) (fun _ h9 => h9) rfl dX3_roundsIn_1 ?_
  refine lv_aload_n hx hb dX3_roundsIn_4 rfl (lv_at hl 1 rfl) ?_
  refine va_get (D := D) (ci := 5) (v := .ref h1) (C := RX5) (T := TX5) (N := 4) hx hb hts inX5 hown hK hP 1 rfl rfl 0 (by decide) (hts _ tw_148) (fun _ h9 => h9) rfl dX3_roundsIn_5 ?_
  refine lv_bipush (v := 8) hx hb dX3_roundsIn_8 (by decide) ?_
  refine va_iald hx hb hK hP 2 1 rfl rfl (by unfold vp_in; decide) dX3_roundsIn_10 ?_
  refine lv_ti (y := (nI tm)) (by rfl) ?_
  refine va_mmin hx hb (by rw [hml]; exact hl.1.symm) hown (hts _ tw_709) (hts _ tw_529) (hts _ tw_93) (hts _ tw_530) (Nat.le_of_ble_eq_true rfl) (Nat.le_of_ble_eq_true rfl) (Nat.le_of_ble_eq_true rfl) (Nat.le_of_ble_eq_true rfl) dX3_roundsIn_11 ?_
  refine lv_ti (y := (nI (min rr tm))) (mminN (by omega) (by omega)) ?_
  exact W.iret (v := (nI (min rr tm))) hx hb hr (fun t ht hW => ⟨⟨(nI (min rr tm)), (), rfl, rfl, trivial⟩, hS.F ht⟩) hS.2.2 dX3_roundsIn_14

theorem f_x_copyFrom_rows : True := trivial
theorem dX4_copyFrom_0 : decode cX4_copyFrom 0 = .ok (.aload_n 1, 1) := by decide +kernel
theorem dX4_copyFrom_1 : decode cX4_copyFrom 1 = .ok (.getfield 9, 3) := by decide +kernel
theorem dX4_copyFrom_4 : decode cX4_copyFrom 4 = .ok (.iconst 0, 1) := by decide +kernel
theorem dX4_copyFrom_5 : decode cX4_copyFrom 5 = .ok (.aload_n 0, 1) := by decide +kernel
theorem dX4_copyFrom_6 : decode cX4_copyFrom 6 = .ok (.getfield 9, 3) := by decide +kernel
theorem dX4_copyFrom_9 : decode cX4_copyFrom 9 = .ok (.iconst 0, 1) := by decide +kernel
theorem dX4_copyFrom_10 : decode cX4_copyFrom 10 = .ok (.iconst 4, 1) := by decide +kernel
theorem dX4_copyFrom_11 : decode cX4_copyFrom 11 = .ok (.invokestatic 31, 3) := by decide +kernel
theorem dX4_copyFrom_14 : decode cX4_copyFrom 14 = .ok (.aload_n 1, 1) := by decide +kernel
theorem dX4_copyFrom_15 : decode cX4_copyFrom 15 = .ok (.getfield 15, 3) := by decide +kernel
theorem dX4_copyFrom_18 : decode cX4_copyFrom 18 = .ok (.iconst 0, 1) := by decide +kernel
theorem dX4_copyFrom_19 : decode cX4_copyFrom 19 = .ok (.aload_n 0, 1) := by decide +kernel
theorem dX4_copyFrom_20 : decode cX4_copyFrom 20 = .ok (.getfield 15, 3) := by decide +kernel
theorem dX4_copyFrom_23 : decode cX4_copyFrom 23 = .ok (.iconst 0, 1) := by decide +kernel
theorem dX4_copyFrom_24 : decode cX4_copyFrom 24 = .ok (.iconst 4, 1) := by decide +kernel
theorem dX4_copyFrom_25 : decode cX4_copyFrom 25 = .ok (.invokestatic 31, 3) := by decide +kernel
theorem dX4_copyFrom_28 : decode cX4_copyFrom 28 = .ok (.aload_n 0, 1) := by decide +kernel
theorem dX4_copyFrom_29 : decode cX4_copyFrom 29 = .ok (.aload_n 1, 1) := by decide +kernel
theorem dX4_copyFrom_30 : decode cX4_copyFrom 30 = .ok (.getfield 18, 3) := by decide +kernel
theorem dX4_copyFrom_33 : decode cX4_copyFrom 33 = .ok (.putfield 18, 3) := by decide +kernel
theorem dX4_copyFrom_36 : decode cX4_copyFrom 36 = .ok (.aload_n 0, 1) := by decide +kernel
theorem dX4_copyFrom_37 : decode cX4_copyFrom 37 = .ok (.aload_n 1, 1) := by decide +kernel
theorem dX4_copyFrom_38 : decode cX4_copyFrom 38 = .ok (.getfield 22, 3) := by decide +kernel
theorem dX4_copyFrom_41 : decode cX4_copyFrom 41 = .ok (.putfield 22, 3) := by decide +kernel
theorem dX4_copyFrom_44 : decode cX4_copyFrom 44 = .ok (.aload_n 0, 1) := by decide +kernel
theorem dX4_copyFrom_45 : decode cX4_copyFrom 45 = .ok (.aload_n 1, 1) := by decide +kernel
theorem dX4_copyFrom_46 : decode cX4_copyFrom 46 = .ok (.getfield 25, 3) := by decide +kernel
theorem dX4_copyFrom_49 : decode cX4_copyFrom 49 = .ok (.putfield 25, 3) := by decide +kernel
theorem dX4_copyFrom_52 : decode cX4_copyFrom 52 = .ok (.aload_n 0, 1) := by decide +kernel
theorem dX4_copyFrom_53 : decode cX4_copyFrom 53 = .ok (.aload_n 1, 1) := by decide +kernel
theorem dX4_copyFrom_54 : decode cX4_copyFrom 54 = .ok (.getfield 28, 3) := by decide +kernel
theorem dX4_copyFrom_57 : decode cX4_copyFrom 57 = .ok (.putfield 28, 3) := by decide +kernel
theorem dX4_copyFrom_60 : decode cX4_copyFrom 60 = .ok (.return_, 1) := by decide +kernel
theorem f_x_see_rows : True := trivial
theorem dX4_see_0 : decode cX4_see 0 = .ok (.iload_n 1, 1) := by decide +kernel
theorem dX4_see_1 : decode cX4_see 1 = .ok (.ifCond .eq 18, 3) := by decide +kernel
theorem dX4_see_4 : decode cX4_see 4 = .ok (.aload_n 0, 1) := by decide +kernel
theorem dX4_see_5 : decode cX4_see 5 = .ok (.dup, 1) := by decide +kernel
theorem dX4_see_6 : decode cX4_see 6 = .ok (.getfield 25, 3) := by decide +kernel
theorem dX4_see_9 : decode cX4_see 9 = .ok (.iconst 1, 1) := by decide +kernel
theorem dX4_see_10 : decode cX4_see 10 = .ok (.aload_n 0, 1) := by decide +kernel
theorem dX4_see_11 : decode cX4_see 11 = .ok (.getfield 22, 3) := by decide +kernel
theorem dX4_see_14 : decode cX4_see 14 = .ok (.ishl, 1) := by decide +kernel
theorem dX4_see_15 : decode cX4_see 15 = .ok (.ior, 1) := by decide +kernel
theorem dX4_see_16 : decode cX4_see 16 = .ok (.putfield 25, 3) := by decide +kernel
theorem dX4_see_19 : decode cX4_see 19 = .ok (.aload_n 0, 1) := by decide +kernel
theorem dX4_see_20 : decode cX4_see 20 = .ok (.dup, 1) := by decide +kernel
theorem dX4_see_21 : decode cX4_see 21 = .ok (.getfield 22, 3) := by decide +kernel
theorem dX4_see_24 : decode cX4_see 24 = .ok (.iconst 1, 1) := by decide +kernel
theorem dX4_see_25 : decode cX4_see 25 = .ok (.iadd, 1) := by decide +kernel
theorem dX4_see_26 : decode cX4_see 26 = .ok (.putfield 22, 3) := by decide +kernel
theorem dX4_see_29 : decode cX4_see 29 = .ok (.aload_n 0, 1) := by decide +kernel
theorem dX4_see_30 : decode cX4_see 30 = .ok (.getfield 22, 3) := by decide +kernel
theorem dX4_see_33 : decode cX4_see 33 = .ok (.ireturn, 1) := by decide +kernel
theorem f_x_sawFree_rows : True := trivial
theorem dX4_sawFree_0 : decode cX4_sawFree 0 = .ok (.aload_n 0, 1) := by decide +kernel
theorem dX4_sawFree_1 : decode cX4_sawFree 1 = .ok (.getfield 25, 3) := by decide +kernel
theorem dX4_sawFree_4 : decode cX4_sawFree 4 = .ok (.iload_n 1, 1) := by decide +kernel
theorem dX4_sawFree_5 : decode cX4_sawFree 5 = .ok (.ishr, 1) := by decide +kernel
theorem dX4_sawFree_6 : decode cX4_sawFree 6 = .ok (.iconst 1, 1) := by decide +kernel
theorem dX4_sawFree_7 : decode cX4_sawFree 7 = .ok (.iand, 1) := by decide +kernel
theorem dX4_sawFree_8 : decode cX4_sawFree 8 = .ok (.ifCond .eq 7, 3) := by decide +kernel
theorem dX4_sawFree_11 : decode cX4_sawFree 11 = .ok (.iconst 1, 1) := by decide +kernel
theorem dX4_sawFree_12 : decode cX4_sawFree 12 = .ok (.goto 4, 3) := by decide +kernel
theorem dX4_sawFree_15 : decode cX4_sawFree 15 = .ok (.iconst 0, 1) := by decide +kernel
theorem dX4_sawFree_16 : decode cX4_sawFree 16 = .ok (.ireturn, 1) := by decide +kernel
theorem f_x_addCar_rows : True := trivial
theorem dX4_addCar_0 : decode cX4_addCar 0 = .ok (.aload_n 0, 1) := by decide +kernel
theorem dX4_addCar_1 : decode cX4_addCar 1 = .ok (.getfield 18, 3) := by decide +kernel
theorem dX4_addCar_4 : decode cX4_addCar 4 = .ok (.istore_n 3, 1) := by decide +kernel
theorem dX4_addCar_5 : decode cX4_addCar 5 = .ok (.iload_n 3, 1) := by decide +kernel
theorem dX4_addCar_6 : decode cX4_addCar 6 = .ok (.iconst 4, 1) := by decide +kernel
theorem dX4_addCar_7 : decode cX4_addCar 7 = .ok (.if_icmp .ge 27, 3) := by decide +kernel
theorem dX4_addCar_10 : decode cX4_addCar 10 = .ok (.aload_n 0, 1) := by decide +kernel
theorem dX4_addCar_11 : decode cX4_addCar 11 = .ok (.getfield 9, 3) := by decide +kernel
theorem dX4_addCar_14 : decode cX4_addCar 14 = .ok (.iload_n 3, 1) := by decide +kernel
theorem dX4_addCar_15 : decode cX4_addCar 15 = .ok (.iload_n 1, 1) := by decide +kernel
theorem dX4_addCar_16 : decode cX4_addCar 16 = .ok (.iastore, 1) := by decide +kernel
theorem dX4_addCar_17 : decode cX4_addCar 17 = .ok (.aload_n 0, 1) := by decide +kernel
theorem dX4_addCar_18 : decode cX4_addCar 18 = .ok (.getfield 15, 3) := by decide +kernel
theorem dX4_addCar_21 : decode cX4_addCar 21 = .ok (.iload_n 3, 1) := by decide +kernel
theorem dX4_addCar_22 : decode cX4_addCar 22 = .ok (.iload_n 2, 1) := by decide +kernel
theorem dX4_addCar_23 : decode cX4_addCar 23 = .ok (.iastore, 1) := by decide +kernel
theorem dX4_addCar_24 : decode cX4_addCar 24 = .ok (.aload_n 0, 1) := by decide +kernel
theorem dX4_addCar_25 : decode cX4_addCar 25 = .ok (.dup, 1) := by decide +kernel
theorem dX4_addCar_26 : decode cX4_addCar 26 = .ok (.getfield 18, 3) := by decide +kernel
theorem dX4_addCar_29 : decode cX4_addCar 29 = .ok (.iconst 1, 1) := by decide +kernel
theorem dX4_addCar_30 : decode cX4_addCar 30 = .ok (.iadd, 1) := by decide +kernel
theorem dX4_addCar_31 : decode cX4_addCar 31 = .ok (.putfield 18, 3) := by decide +kernel
theorem dX4_addCar_34 : decode cX4_addCar 34 = .ok (.iload_n 3, 1) := by decide +kernel
theorem dX4_addCar_35 : decode cX4_addCar 35 = .ok (.ireturn, 1) := by decide +kernel
theorem dX4_takeBars_0 : decode cX4_takeBars 0 = .ok (.aload_n 1, 1) := by decide +kernel
theorem dX4_takeBars_1 : decode cX4_takeBars 1 = .ok (.iconst 0, 1) := by decide +kernel
theorem dX4_takeBars_2 : decode cX4_takeBars 2 = .ok (.aload_n 0, 1) := by decide +kernel
theorem dX4_takeBars_3 : decode cX4_takeBars 3 = .ok (.getfield 15, 3) := by decide +kernel
theorem dX4_takeBars_6 : decode cX4_takeBars 6 = .ok (.iconst 0, 1) := by decide +kernel
theorem dX4_takeBars_7 : decode cX4_takeBars 7 = .ok (.iconst 4, 1) := by decide +kernel
theorem dX4_takeBars_8 : decode cX4_takeBars 8 = .ok (.invokestatic 31, 3) := by decide +kernel
theorem dX4_takeBars_11 : decode cX4_takeBars 11 = .ok (.return_, 1) := by decide +kernel
set_option maxHeartbeats 4000000 in
set_option maxRecDepth 100000 in
theorem x_takeBars (l : Launch) (D : va_G) (k : Nat → ClassId) (st : Nat → Nat) (lo : Nat) (c0 : Nat) (c1 : Nat) (c2 : Nat) (cc : Nat) (rz : Nat) (ro : Int32) (sd : Int32) (wk : Nat → Int32) (br : Nat → Nat) (z1 : Nat) (pb : Nat → Nat) (hbr : ∀ j, br j ≤ 24) (hpb : ∀ j, pb j ≤ 24) : CWv l D k st lo yX4_takeBars cX4_takeBars 2 none ({ frames := 1, cells := 0, slots := 0, locals := 60 }) 0 0 [.ref c0, .ref z1] [(c0, .inr (4, (fX4 c1 c2 (nI cc) (nI rz) ro sd))), (aI k c1 4 wk), (aI k c2 4 (nF br)), (aI k z1 4 (nF pb))] (fun (br_ : (Nat → Nat)) => ∀ j, br_ j ≤ 24) (fun (br_ : (Nat → Nat)) => [(c0, .inr (4, (fX4 c1 c2 (nI cc) (nI rz) ro sd))), (aI k c1 4 wk), (aI k c2 4 (nF br_)), (aI k z1 4 (nF pb))]) := by
  intro sz
  refine Met.ofW (cc := cX4_takeBars) (maxL := 2) (ret := none) (by decide) rfl ?_
  intro p e s m args below meth c s₁ B hml hv
  obtain ⟨rfl, hsz, hlo, hP, hK, hDL, hZ⟩ := hv
  have hx := B.exec
  have hb := B.bytes
  have hr := B.returns
  have hts := WS_ts B.pre
  have hown : s.vm.findClass RX4 = some m.cls := findClass_of_methodNamed B.named
  have hlocks := B.notSynchronized
  subst hsz
  have hD := hDL.self (sz := s.heap.size)
  have hAlo := A_lo hDL hlo
  generalize hAe : va_A [(c0, .inr (4, (fX4 c1 c2 (nI cc) (nI rz) ro sd))), (aI k c1 4 wk), (aI k c2 4 (nF br)), (aI k z1 4 (nF pb))] s.heap.size = A at hD hAlo ⊢
  have hA : ∀ q : Nat, s.heap.size ≤ q → A q := fun q h => by rw [← hAe]; exact Or.inr h
  have hS : va_S A s.heap s.heap [] := va_S.rf
  have hl := lv_entry ([.ref c0, .ref z1]) (n := 2) (Nat.le_of_ble_eq_true rfl)
  rw [lg_entry_eq]
  generalize (lg_sl ([.ref c0, .ref z1]) ++ List.replicate (2 - (lg_sl ([.ref c0, .ref z1])).length) Slot.unset).toArray = ls at hl ⊢
  have hl : lv_has ls 2 [(0, .ref c0), (1, .ref z1)] := hl
  refine lv_aload_n hx hb dX4_takeBars_0 rfl (lv_at hl 1 rfl) ?_
  refine lv_iconst (v := 0) hx hb dX4_takeBars_1 (by decide) ?_
  refine lv_aload_n hx hb dX4_takeBars_2 rfl (lv_at hl 0 rfl) ?_
  refine va_get (D := D) (ci := 4) (v := .ref c2) (C := RX4) (T := TX4) (N := 6) hx hb hts inX4 hown hK hP 0 rfl rfl 1 (by decide) (hts _ tw_175) (fun _ h9 => h9) rfl dX4_takeBars_3 ?_
  refine lv_iconst (v := 0) hx hb dX4_takeBars_6 (by decide) ?_
  refine lv_iconst (v := 4) hx hb dX4_takeBars_7 (by decide) ?_
  refine va_copyi hx hb (by rw [hml]; exact hl.1.symm) hown (hts _ tw_883) (hts _ tw_366) (hts _ tw_365) (hts _ tw_88) hK hP hD hS 3 2 1 1 rfl rfl rfl rfl rfl (by decide) (by decide) (by decide) (by decide) (by decide) (fun _ _ => rfl) (Nat.le_of_ble_eq_true rfl) (Nat.le_of_ble_eq_true rfl) dX4_takeBars_8 (fun H locs hP hD hS => ?_)
  replace hP : va_P D classes [(c0, .inr (4, (fX4 c1 c2 (nI cc) (nI rz) ro sd))), (aI k c1 4 wk), (aI k c2 4 (va_cpy (nF pb) (nF br) 0 0 4)), (aI k z1 4 (nF pb))] H := hP
  replace hD : va_D A [(c0, .inr (4, (fX4 c1 c2 (nI cc) (nI rz) ro sd))), (aI k c1 4 wk), (aI k c2 4 (va_cpy (nF pb) (nF br) 0 0 4)), (aI k z1 4 (nF pb))] := hD
  obtain ⟨d_1, hd_1, hbb_1⟩ := nF_cpy hpb hbr
  rw [show va_cpy (nF pb) (nF br) 0 0 4 = nF d_1 from hd_1] at hP hD
  replace hP : va_P D classes [(c0, .inr (4, (fX4 c1 c2 (nI cc) (nI rz) ro sd))), (aI k c1 4 wk), (aI k c2 4 (nF d_1)), (aI k z1 4 (nF pb))] H := hP
  replace hD : va_D A [(c0, .inr (4, (fX4 c1 c2 (nI cc) (nI rz) ro sd))), (aI k c1 4 wk), (aI k c2 4 (nF d_1)), (aI k z1 4 (nF pb))] := hD
  have hP9 := hP.sub (ws' := [(c0, .inr (4, (fX4 c1 c2 (nI cc) (nI rz) ro sd))), (aI k c1 4 wk), (aI k c2 4 (nF d_1)), (aI k z1 4 (nF pb))]) [0, 1, 2, 3] rfl
  have hD9 := hD.sub (ws' := [(c0, .inr (4, (fX4 c1 c2 (nI cc) (nI rz) ro sd))), (aI k c1 4 wk), (aI k c2 4 (nF d_1)), (aI k z1 4 (nF pb))]) [0, 1, 2, 3] (by decide) rfl
  exact W.vret hx hb hr (fun t ht hW => ⟨⟨d_1, rfl, hbb_1, by rw [ht]; exact hP9, hD9⟩, hS.F ht⟩) hS.2.2 dX4_takeBars_11

theorem f_x_draw_rows : True := trivial
theorem dX4_draw_0 : decode cX4_draw 0 = .ok (.aload_n 0, 1) := by decide +kernel
theorem dX4_draw_1 : decode cX4_draw 1 = .ok (.aload_n 0, 1) := by decide +kernel
theorem dX4_draw_2 : decode cX4_draw 2 = .ok (.getfield 28, 3) := by decide +kernel
theorem dX4_draw_5 : decode cX4_draw 5 = .ok (.i2l, 1) := by decide +kernel
theorem dX4_draw_6 : decode cX4_draw 6 = .ok (.ldc2_w 37, 3) := by decide +kernel
theorem dX4_draw_9 : decode cX4_draw 9 = .ok (.lmul, 1) := by decide +kernel
theorem dX4_draw_10 : decode cX4_draw 10 = .ok (.ldc2_w 39, 3) := by decide +kernel
theorem dX4_draw_13 : decode cX4_draw 13 = .ok (.ladd, 1) := by decide +kernel
theorem dX4_draw_14 : decode cX4_draw 14 = .ok (.ldc2_w 41, 3) := by decide +kernel
theorem dX4_draw_17 : decode cX4_draw 17 = .ok (.land, 1) := by decide +kernel
theorem dX4_draw_18 : decode cX4_draw 18 = .ok (.l2i, 1) := by decide +kernel
theorem dX4_draw_19 : decode cX4_draw 19 = .ok (.putfield 28, 3) := by decide +kernel
theorem dX4_draw_22 : decode cX4_draw 22 = .ok (.aload_n 0, 1) := by decide +kernel
theorem dX4_draw_23 : decode cX4_draw 23 = .ok (.getfield 28, 3) := by decide +kernel
theorem dX4_draw_26 : decode cX4_draw 26 = .ok (.ldc 43, 2) := by decide +kernel
theorem dX4_draw_28 : decode cX4_draw 28 = .ok (.idiv, 1) := by decide +kernel
theorem dX4_draw_29 : decode cX4_draw 29 = .ok (.bipush 100, 2) := by decide +kernel
theorem dX4_draw_31 : decode cX4_draw 31 = .ok (.irem, 1) := by decide +kernel
theorem dX4_draw_32 : decode cX4_draw 32 = .ok (.ireturn, 1) := by decide +kernel
theorem dX0_slot_0 : decode cX0_slot 0 = .ok (.iload_n 0, 1) := by decide +kernel
theorem dX0_slot_1 : decode cX0_slot 1 = .ok (.bipush 24, 2) := by decide +kernel
theorem dX0_slot_3 : decode cX0_slot 3 = .ok (.imul, 1) := by decide +kernel
theorem dX0_slot_4 : decode cX0_slot 4 = .ok (.iload_n 1, 1) := by decide +kernel
theorem dX0_slot_5 : decode cX0_slot 5 = .ok (.iadd, 1) := by decide +kernel
theorem dX0_slot_6 : decode cX0_slot 6 = .ok (.bipush 8, 2) := by decide +kernel
theorem dX0_slot_8 : decode cX0_slot 8 = .ok (.imul, 1) := by decide +kernel
theorem dX0_slot_9 : decode cX0_slot 9 = .ok (.iload_n 2, 1) := by decide +kernel
theorem dX0_slot_10 : decode cX0_slot 10 = .ok (.iadd, 1) := by decide +kernel
theorem dX0_slot_11 : decode cX0_slot 11 = .ok (.ireturn, 1) := by decide +kernel
set_option maxHeartbeats 4000000 in
set_option maxRecDepth 100000 in
theorem x_slot (l : Launch) (D : va_G) (k : Nat → ClassId) (st : Nat → Nat) (lo : Nat) (rn : Nat) (i : Nat) (gg : Nat)  : CRi l D k st lo yX0_slot cX0_slot 3 (some .int) ({ frames := 0, cells := 0, slots := 0, locals := 0 }) [.int (nI rn), .int (nI i), .int (nI gg)] [] (fun r => r = nI ((rn * 24 + i) * 8 + gg)) := by
  intro sz
  refine Met.ofW (cc := cX0_slot) (maxL := 3) (ret := (some .int)) (by decide) rfl ?_
  intro p e s m args below meth c s₁ B hml hv
  obtain ⟨rfl, hsz, hlo, hP, hK, hDL, hZ⟩ := hv
  have hx := B.exec
  have hb := B.bytes
  have hr := B.returns
  have hts := WS_ts B.pre
  have hown : s.vm.findClass RX0 = some m.cls := findClass_of_methodNamed B.named
  have hlocks := B.notSynchronized
  subst hsz
  have hA : ∀ q : Nat, s.heap.size ≤ q → (fun q : Nat => s.heap.size ≤ q) q := fun _ h => h
  have hAlo : ∀ q : Nat, (fun q : Nat => s.heap.size ≤ q) q → lo ≤ q := fun q h => Nat.le_trans hlo h
  have hS : va_S (fun q : Nat => s.heap.size ≤ q) s.heap s.heap [] := va_S.rf
  have hl := lv_entry ([.int (nI rn), .int (nI i), .int (nI gg)]) (n := 3) (Nat.le_of_ble_eq_true rfl)
  rw [lg_entry_eq]
  generalize (lg_sl ([.int (nI rn), .int (nI i), .int (nI gg)]) ++ List.replicate (3 - (lg_sl ([.int (nI rn), .int (nI i), .int (nI gg)])).length) Slot.unset).toArray = ls at hl ⊢
  have hl : lv_has ls 3 [(0, .int (nI rn)), (1, .int (nI i)), (2, .int (nI gg))] := hl
  refine lv_iload_n hx hb dX0_slot_0 rfl (lv_at hl 0 rfl) ?_
  refine lv_bipush (v := 24) hx hb dX0_slot_1 (by decide) ?_
  refine lv_imul hx hb dX0_slot_3 ?_
  refine lv_ti (y := (nI (rn * 24))) (pk_mul rn 24) ?_
  refine lv_iload_n hx hb dX0_slot_4 rfl (lv_at hl 1 rfl) ?_
  refine lv_iadd hx hb dX0_slot_5 ?_
  refine lv_ti (y := (nI (rn * 24 + i))) (nI_add (rn * 24) i) ?_
  refine lv_bipush (v := 8) hx hb dX0_slot_6 (by decide) ?_
  refine lv_imul hx hb dX0_slot_8 ?_
  refine lv_ti (y := (nI ((rn * 24 + i) * 8))) (pk_mul (rn * 24 + i) 8) ?_
  refine lv_iload_n hx hb dX0_slot_9 rfl (lv_at hl 2 rfl) ?_
  refine lv_iadd hx hb dX0_slot_10 ?_
  refine lv_ti (y := (nI ((rn * 24 + i) * 8 + gg))) (nI_add ((rn * 24 + i) * 8) gg) ?_
  exact W.iret (v := (nI ((rn * 24 + i) * 8 + gg))) hx hb hr (fun t ht hW => ⟨⟨(nI ((rn * 24 + i) * 8 + gg)), (), rfl, rfl, trivial⟩, hS.F ht⟩) hS.2.2 dX0_slot_11

theorem f_x_onwardOf_rows : True := trivial
theorem dX0_onwardOf_0 : decode cX0_onwardOf 0 = .ok (.aload_n 0, 1) := by decide +kernel
theorem dX0_onwardOf_1 : decode cX0_onwardOf 1 = .ok (.getfield 9, 3) := by decide +kernel
theorem dX0_onwardOf_4 : decode cX0_onwardOf 4 = .ok (.iload_n 1, 1) := by decide +kernel
theorem dX0_onwardOf_5 : decode cX0_onwardOf 5 = .ok (.iload_n 2, 1) := by decide +kernel
theorem dX0_onwardOf_6 : decode cX0_onwardOf 6 = .ok (.iload_n 3, 1) := by decide +kernel
theorem dX0_onwardOf_7 : decode cX0_onwardOf 7 = .ok (.invokestatic 67, 3) := by decide +kernel
theorem dX0_onwardOf_10 : decode cX0_onwardOf 10 = .ok (.iaload, 1) := by decide +kernel
theorem dX0_onwardOf_11 : decode cX0_onwardOf 11 = .ok (.ireturn, 1) := by decide +kernel
theorem f_x_isTaken_rows : True := trivial
theorem dX0_isTaken_0 : decode cX0_isTaken 0 = .ok (.iload_n 3, 1) := by decide +kernel
theorem dX0_isTaken_1 : decode cX0_isTaken 1 = .ok (.iconst 1, 1) := by decide +kernel
theorem dX0_isTaken_2 : decode cX0_isTaken 2 = .ok (.iand, 1) := by decide +kernel
theorem dX0_isTaken_3 : decode cX0_isTaken 3 = .ok (.ifCond .eq 26, 3) := by decide +kernel
theorem dX0_isTaken_6 : decode cX0_isTaken 6 = .ok (.aload_n 0, 1) := by decide +kernel
theorem dX0_isTaken_7 : decode cX0_isTaken 7 = .ok (.getfield 24, 3) := by decide +kernel
theorem dX0_isTaken_10 : decode cX0_isTaken 10 = .ok (.iload_n 1, 1) := by decide +kernel
theorem dX0_isTaken_11 : decode cX0_isTaken 11 = .ok (.iload_n 2, 1) := by decide +kernel
theorem dX0_isTaken_12 : decode cX0_isTaken 12 = .ok (.invokevirtual 83, 3) := by decide +kernel
theorem dX0_isTaken_15 : decode cX0_isTaken 15 = .ok (.aload_n 0, 1) := by decide +kernel
theorem dX0_isTaken_16 : decode cX0_isTaken 16 = .ok (.iload_n 1, 1) := by decide +kernel
theorem dX0_isTaken_17 : decode cX0_isTaken 17 = .ok (.iload_n 2, 1) := by decide +kernel
theorem dX0_isTaken_18 : decode cX0_isTaken 18 = .ok (.iload_n 3, 1) := by decide +kernel
theorem dX0_isTaken_19 : decode cX0_isTaken 19 = .ok (.invokevirtual 86, 3) := by decide +kernel
theorem dX0_isTaken_22 : decode cX0_isTaken 22 = .ok (.if_icmp .gt 7, 3) := by decide +kernel
theorem dX0_isTaken_25 : decode cX0_isTaken 25 = .ok (.iconst 1, 1) := by decide +kernel
theorem dX0_isTaken_26 : decode cX0_isTaken 26 = .ok (.goto 4, 3) := by decide +kernel
theorem dX0_isTaken_29 : decode cX0_isTaken 29 = .ok (.iconst 0, 1) := by decide +kernel
theorem dX0_isTaken_30 : decode cX0_isTaken 30 = .ok (.ireturn, 1) := by decide +kernel
theorem f_x_worthOf_rows : True := trivial
theorem dX0_worthOf_0 : decode cX0_worthOf 0 = .ok (.aload_n 0, 1) := by decide +kernel
theorem dX0_worthOf_1 : decode cX0_worthOf 1 = .ok (.iload_n 1, 1) := by decide +kernel
theorem dX0_worthOf_2 : decode cX0_worthOf 2 = .ok (.iload_n 2, 1) := by decide +kernel
theorem dX0_worthOf_3 : decode cX0_worthOf 3 = .ok (.iload_n 3, 1) := by decide +kernel
theorem dX0_worthOf_4 : decode cX0_worthOf 4 = .ok (.invokevirtual 86, 3) := by decide +kernel
theorem dX0_worthOf_7 : decode cX0_worthOf 7 = .ok (.istore 4, 2) := by decide +kernel
theorem dX0_worthOf_9 : decode cX0_worthOf 9 = .ok (.iload_n 3, 1) := by decide +kernel
theorem dX0_worthOf_10 : decode cX0_worthOf 10 = .ok (.iconst 1, 1) := by decide +kernel
theorem dX0_worthOf_11 : decode cX0_worthOf 11 = .ok (.iand, 1) := by decide +kernel
theorem dX0_worthOf_12 : decode cX0_worthOf 12 = .ok (.ifCond .ne 8, 3) := by decide +kernel
theorem dX0_worthOf_15 : decode cX0_worthOf 15 = .ok (.iload 4, 2) := by decide +kernel
theorem dX0_worthOf_17 : decode cX0_worthOf 17 = .ok (.goto 17, 3) := by decide +kernel
theorem dX0_worthOf_20 : decode cX0_worthOf 20 = .ok (.iload 4, 2) := by decide +kernel
theorem dX0_worthOf_22 : decode cX0_worthOf 22 = .ok (.aload_n 0, 1) := by decide +kernel
theorem dX0_worthOf_23 : decode cX0_worthOf 23 = .ok (.getfield 24, 3) := by decide +kernel
theorem dX0_worthOf_26 : decode cX0_worthOf 26 = .ok (.iload_n 1, 1) := by decide +kernel
theorem dX0_worthOf_27 : decode cX0_worthOf 27 = .ok (.iload_n 2, 1) := by decide +kernel
theorem dX0_worthOf_28 : decode cX0_worthOf 28 = .ok (.invokevirtual 83, 3) := by decide +kernel
theorem dX0_worthOf_31 : decode cX0_worthOf 31 = .ok (.invokestatic 54, 3) := by decide +kernel
theorem dX0_worthOf_34 : decode cX0_worthOf 34 = .ok (.ireturn, 1) := by decide +kernel
theorem f_x_mixed_rows : True := trivial
theorem dX7_mixed_0 : decode cX7_mixed 0 = .ok (.iload_n 0, 1) := by decide +kernel
theorem dX7_mixed_1 : decode cX7_mixed 1 = .ok (.i2l, 1) := by decide +kernel
theorem dX7_mixed_2 : decode cX7_mixed 2 = .ok (.iload_n 1, 1) := by decide +kernel
theorem dX7_mixed_3 : decode cX7_mixed 3 = .ok (.i2l, 1) := by decide +kernel
theorem dX7_mixed_4 : decode cX7_mixed 4 = .ok (.lmul, 1) := by decide +kernel
theorem dX7_mixed_5 : decode cX7_mixed 5 = .ok (.bipush 100, 2) := by decide +kernel
theorem dX7_mixed_7 : decode cX7_mixed 7 = .ok (.iload_n 0, 1) := by decide +kernel
theorem dX7_mixed_8 : decode cX7_mixed 8 = .ok (.isub, 1) := by decide +kernel
theorem dX7_mixed_9 : decode cX7_mixed 9 = .ok (.i2l, 1) := by decide +kernel
theorem dX7_mixed_10 : decode cX7_mixed 10 = .ok (.iload_n 2, 1) := by decide +kernel
theorem dX7_mixed_11 : decode cX7_mixed 11 = .ok (.i2l, 1) := by decide +kernel
theorem dX7_mixed_12 : decode cX7_mixed 12 = .ok (.lmul, 1) := by decide +kernel
theorem dX7_mixed_13 : decode cX7_mixed 13 = .ok (.ladd, 1) := by decide +kernel
theorem dX7_mixed_14 : decode cX7_mixed 14 = .ok (.ldc2_w 295, 3) := by decide +kernel
theorem dX7_mixed_17 : decode cX7_mixed 17 = .ok (.ldiv, 1) := by decide +kernel
theorem dX7_mixed_18 : decode cX7_mixed 18 = .ok (.l2i, 1) := by decide +kernel
theorem dX7_mixed_19 : decode cX7_mixed 19 = .ok (.ireturn, 1) := by decide +kernel
theorem f_x_reckonEnd_rows : True := trivial
theorem dX0_reckonEnd_0 : decode cX0_reckonEnd 0 = .ok (.aload_n 0, 1) := by decide +kernel
theorem dX0_reckonEnd_1 : decode cX0_reckonEnd 1 = .ok (.getfield 24, 3) := by decide +kernel
theorem dX0_reckonEnd_4 : decode cX0_reckonEnd 4 = .ok (.iload_n 1, 1) := by decide +kernel
theorem dX0_reckonEnd_5 : decode cX0_reckonEnd 5 = .ok (.invokevirtual 48, 3) := by decide +kernel
theorem dX0_reckonEnd_8 : decode cX0_reckonEnd 8 = .ok (.istore_n 2, 1) := by decide +kernel
theorem dX0_reckonEnd_9 : decode cX0_reckonEnd 9 = .ok (.iload_n 1, 1) := by decide +kernel
theorem dX0_reckonEnd_10 : decode cX0_reckonEnd 10 = .ok (.aload_n 0, 1) := by decide +kernel
theorem dX0_reckonEnd_11 : decode cX0_reckonEnd 11 = .ok (.getfield 24, 3) := by decide +kernel
theorem dX0_reckonEnd_14 : decode cX0_reckonEnd 14 = .ok (.getfield 28, 3) := by decide +kernel
theorem dX0_reckonEnd_17 : decode cX0_reckonEnd 17 = .ok (.bipush 8, 2) := by decide +kernel
theorem dX0_reckonEnd_19 : decode cX0_reckonEnd 19 = .ok (.iaload, 1) := by decide +kernel
theorem dX0_reckonEnd_20 : decode cX0_reckonEnd 20 = .ok (.if_icmp .lt 5, 3) := by decide +kernel
theorem dX0_reckonEnd_23 : decode cX0_reckonEnd 23 = .ok (.iload_n 2, 1) := by decide +kernel
theorem dX0_reckonEnd_24 : decode cX0_reckonEnd 24 = .ok (.ireturn, 1) := by decide +kernel
theorem dX0_reckonEnd_25 : decode cX0_reckonEnd 25 = .ok (.iload_n 2, 1) := by decide +kernel
theorem dX0_reckonEnd_26 : decode cX0_reckonEnd 26 = .ok (.aload_n 0, 1) := by decide +kernel
theorem dX0_reckonEnd_27 : decode cX0_reckonEnd 27 = .ok (.getfield 24, 3) := by decide +kernel
theorem dX0_reckonEnd_30 : decode cX0_reckonEnd 30 = .ok (.invokevirtual 51, 3) := by decide +kernel
theorem dX0_reckonEnd_33 : decode cX0_reckonEnd 33 = .ok (.aload_n 0, 1) := by decide +kernel
theorem dX0_reckonEnd_34 : decode cX0_reckonEnd 34 = .ok (.getfield 15, 3) := by decide +kernel
theorem dX0_reckonEnd_37 : decode cX0_reckonEnd 37 = .ok (.iload_n 1, 1) := by decide +kernel
theorem dX0_reckonEnd_38 : decode cX0_reckonEnd 38 = .ok (.iconst 1, 1) := by decide +kernel
theorem dX0_reckonEnd_39 : decode cX0_reckonEnd 39 = .ok (.iadd, 1) := by decide +kernel
theorem dX0_reckonEnd_40 : decode cX0_reckonEnd 40 = .ok (.iaload, 1) := by decide +kernel
theorem dX0_reckonEnd_41 : decode cX0_reckonEnd 41 = .ok (.iadd, 1) := by decide +kernel
theorem dX0_reckonEnd_42 : decode cX0_reckonEnd 42 = .ok (.invokestatic 54, 3) := by decide +kernel
theorem dX0_reckonEnd_45 : decode cX0_reckonEnd 45 = .ok (.ireturn, 1) := by decide +kernel
theorem f_x_reckonNext_rows : True := trivial
theorem dX0_reckonNext_0 : decode cX0_reckonNext 0 = .ok (.aload_n 0, 1) := by decide +kernel
theorem dX0_reckonNext_1 : decode cX0_reckonNext 1 = .ok (.getfield 24, 3) := by decide +kernel
theorem dX0_reckonNext_4 : decode cX0_reckonNext 4 = .ok (.getfield 28, 3) := by decide +kernel
theorem dX0_reckonNext_7 : decode cX0_reckonNext 7 = .ok (.bipush 6, 2) := by decide +kernel
theorem dX0_reckonNext_9 : decode cX0_reckonNext 9 = .ok (.iaload, 1) := by decide +kernel
theorem dX0_reckonNext_10 : decode cX0_reckonNext 10 = .ok (.istore 4, 2) := by decide +kernel
theorem dX0_reckonNext_12 : decode cX0_reckonNext 12 = .ok (.iload_n 2, 1) := by decide +kernel
theorem dX0_reckonNext_13 : decode cX0_reckonNext 13 = .ok (.iconst 1, 1) := by decide +kernel
theorem dX0_reckonNext_14 : decode cX0_reckonNext 14 = .ok (.iadd, 1) := by decide +kernel
theorem dX0_reckonNext_15 : decode cX0_reckonNext 15 = .ok (.istore 5, 2) := by decide +kernel
theorem dX0_reckonNext_17 : decode cX0_reckonNext 17 = .ok (.iload_n 3, 1) := by decide +kernel
theorem dX0_reckonNext_18 : decode cX0_reckonNext 18 = .ok (.iconst 1, 1) := by decide +kernel
theorem dX0_reckonNext_19 : decode cX0_reckonNext 19 = .ok (.ishr, 1) := by decide +kernel
theorem dX0_reckonNext_20 : decode cX0_reckonNext 20 = .ok (.istore 6, 2) := by decide +kernel
theorem dX0_reckonNext_22 : decode cX0_reckonNext 22 = .ok (.iload 5, 2) := by decide +kernel
theorem dX0_reckonNext_24 : decode cX0_reckonNext 24 = .ok (.iload 4, 2) := by decide +kernel
theorem dX0_reckonNext_26 : decode cX0_reckonNext 26 = .ok (.iadd, 1) := by decide +kernel
theorem dX0_reckonNext_27 : decode cX0_reckonNext 27 = .ok (.aload_n 0, 1) := by decide +kernel
theorem dX0_reckonNext_28 : decode cX0_reckonNext 28 = .ok (.getfield 24, 3) := by decide +kernel
theorem dX0_reckonNext_31 : decode cX0_reckonNext 31 = .ok (.invokevirtual 37, 3) := by decide +kernel
theorem dX0_reckonNext_34 : decode cX0_reckonNext 34 = .ok (.if_icmp .lt 13, 3) := by decide +kernel
theorem dX0_reckonNext_37 : decode cX0_reckonNext 37 = .ok (.aload_n 0, 1) := by decide +kernel
theorem dX0_reckonNext_38 : decode cX0_reckonNext 38 = .ok (.iload_n 1, 1) := by decide +kernel
theorem dX0_reckonNext_39 : decode cX0_reckonNext 39 = .ok (.iload 5, 2) := by decide +kernel
theorem dX0_reckonNext_41 : decode cX0_reckonNext 41 = .ok (.iload 6, 2) := by decide +kernel
theorem dX0_reckonNext_43 : decode cX0_reckonNext 43 = .ok (.invokevirtual 73, 3) := by decide +kernel
theorem dX0_reckonNext_46 : decode cX0_reckonNext 46 = .ok (.ireturn, 1) := by decide +kernel
theorem dX0_reckonNext_47 : decode cX0_reckonNext 47 = .ok (.aload_n 0, 1) := by decide +kernel
theorem dX0_reckonNext_48 : decode cX0_reckonNext 48 = .ok (.getfield 24, 3) := by decide +kernel
theorem dX0_reckonNext_51 : decode cX0_reckonNext 51 = .ok (.iload 5, 2) := by decide +kernel
theorem dX0_reckonNext_53 : decode cX0_reckonNext 53 = .ok (.iload 4, 2) := by decide +kernel
theorem dX0_reckonNext_55 : decode cX0_reckonNext 55 = .ok (.iadd, 1) := by decide +kernel
theorem dX0_reckonNext_56 : decode cX0_reckonNext 56 = .ok (.iload_n 3, 1) := by decide +kernel
theorem dX0_reckonNext_57 : decode cX0_reckonNext 57 = .ok (.iload 4, 2) := by decide +kernel
theorem dX0_reckonNext_59 : decode cX0_reckonNext 59 = .ok (.ishr, 1) := by decide +kernel
theorem dX0_reckonNext_60 : decode cX0_reckonNext 60 = .ok (.iconst 1, 1) := by decide +kernel
theorem dX0_reckonNext_61 : decode cX0_reckonNext 61 = .ok (.iand, 1) := by decide +kernel
theorem dX0_reckonNext_62 : decode cX0_reckonNext 62 = .ok (.ifCond .eq 7, 3) := by decide +kernel
theorem dX0_reckonNext_65 : decode cX0_reckonNext 65 = .ok (.iconst 1, 1) := by decide +kernel
theorem dX0_reckonNext_66 : decode cX0_reckonNext 66 = .ok (.goto 4, 3) := by decide +kernel
theorem dX0_reckonNext_69 : decode cX0_reckonNext 69 = .ok (.iconst 0, 1) := by decide +kernel
theorem dX0_reckonNext_70 : decode cX0_reckonNext 70 = .ok (.invokevirtual 76, 3) := by decide +kernel
theorem dX0_reckonNext_73 : decode cX0_reckonNext 73 = .ok (.istore 7, 2) := by decide +kernel
theorem dX0_reckonNext_75 : decode cX0_reckonNext 75 = .ok (.iload 7, 2) := by decide +kernel
theorem dX0_reckonNext_77 : decode cX0_reckonNext 77 = .ok (.aload_n 0, 1) := by decide +kernel
theorem dX0_reckonNext_78 : decode cX0_reckonNext 78 = .ok (.iload_n 1, 1) := by decide +kernel
theorem dX0_reckonNext_79 : decode cX0_reckonNext 79 = .ok (.iload 5, 2) := by decide +kernel
theorem dX0_reckonNext_81 : decode cX0_reckonNext 81 = .ok (.iload 6, 2) := by decide +kernel
theorem dX0_reckonNext_83 : decode cX0_reckonNext 83 = .ok (.iconst 1, 1) := by decide +kernel
theorem dX0_reckonNext_84 : decode cX0_reckonNext 84 = .ok (.iload 4, 2) := by decide +kernel
theorem dX0_reckonNext_86 : decode cX0_reckonNext 86 = .ok (.ishl, 1) := by decide +kernel
theorem dX0_reckonNext_87 : decode cX0_reckonNext 87 = .ok (.ior, 1) := by decide +kernel
theorem dX0_reckonNext_88 : decode cX0_reckonNext 88 = .ok (.invokevirtual 73, 3) := by decide +kernel
theorem dX0_reckonNext_91 : decode cX0_reckonNext 91 = .ok (.aload_n 0, 1) := by decide +kernel
theorem dX0_reckonNext_92 : decode cX0_reckonNext 92 = .ok (.iload_n 1, 1) := by decide +kernel
theorem dX0_reckonNext_93 : decode cX0_reckonNext 93 = .ok (.iload 5, 2) := by decide +kernel
theorem dX0_reckonNext_95 : decode cX0_reckonNext 95 = .ok (.iload 6, 2) := by decide +kernel
theorem dX0_reckonNext_97 : decode cX0_reckonNext 97 = .ok (.invokevirtual 73, 3) := by decide +kernel
theorem dX0_reckonNext_100 : decode cX0_reckonNext 100 = .ok (.invokestatic 80, 3) := by decide +kernel
theorem dX0_reckonNext_103 : decode cX0_reckonNext 103 = .ok (.ireturn, 1) := by decide +kernel
theorem f_x_reckonDoor_rows : True := trivial
theorem dX0_reckonDoor_0 : decode cX0_reckonDoor 0 = .ok (.iload_n 2, 1) := by decide +kernel
theorem dX0_reckonDoor_1 : decode cX0_reckonDoor 1 = .ok (.aload_n 0, 1) := by decide +kernel
theorem dX0_reckonDoor_2 : decode cX0_reckonDoor 2 = .ok (.getfield 24, 3) := by decide +kernel
theorem dX0_reckonDoor_5 : decode cX0_reckonDoor 5 = .ok (.invokevirtual 37, 3) := by decide +kernel
theorem dX0_reckonDoor_8 : decode cX0_reckonDoor 8 = .ok (.iconst 1, 1) := by decide +kernel
theorem dX0_reckonDoor_9 : decode cX0_reckonDoor 9 = .ok (.isub, 1) := by decide +kernel
theorem dX0_reckonDoor_10 : decode cX0_reckonDoor 10 = .ok (.if_icmp .ne 7, 3) := by decide +kernel
theorem dX0_reckonDoor_13 : decode cX0_reckonDoor 13 = .ok (.iconst 1, 1) := by decide +kernel
theorem dX0_reckonDoor_14 : decode cX0_reckonDoor 14 = .ok (.goto 4, 3) := by decide +kernel
theorem dX0_reckonDoor_17 : decode cX0_reckonDoor 17 = .ok (.iconst 0, 1) := by decide +kernel
theorem dX0_reckonDoor_18 : decode cX0_reckonDoor 18 = .ok (.istore_n 3, 1) := by decide +kernel
theorem dX0_reckonDoor_19 : decode cX0_reckonDoor 19 = .ok (.iconst 0, 1) := by decide +kernel
theorem dX0_reckonDoor_20 : decode cX0_reckonDoor 20 = .ok (.istore 4, 2) := by decide +kernel
theorem dX0_reckonDoor_22 : decode cX0_reckonDoor 22 = .ok (.iload 4, 2) := by decide +kernel
theorem dX0_reckonDoor_24 : decode cX0_reckonDoor 24 = .ok (.aload_n 0, 1) := by decide +kernel
theorem dX0_reckonDoor_25 : decode cX0_reckonDoor 25 = .ok (.getfield 24, 3) := by decide +kernel
theorem dX0_reckonDoor_28 : decode cX0_reckonDoor 28 = .ok (.iload_n 2, 1) := by decide +kernel
theorem dX0_reckonDoor_29 : decode cX0_reckonDoor 29 = .ok (.invokevirtual 60, 3) := by decide +kernel
theorem dX0_reckonDoor_32 : decode cX0_reckonDoor 32 = .ok (.if_icmp .ge 54, 3) := by decide +kernel
theorem dX0_reckonDoor_35 : decode cX0_reckonDoor 35 = .ok (.iload_n 3, 1) := by decide +kernel
theorem dX0_reckonDoor_36 : decode cX0_reckonDoor 36 = .ok (.ifCond .eq 12, 3) := by decide +kernel
theorem dX0_reckonDoor_39 : decode cX0_reckonDoor 39 = .ok (.aload_n 0, 1) := by decide +kernel
theorem dX0_reckonDoor_40 : decode cX0_reckonDoor 40 = .ok (.getfield 18, 3) := by decide +kernel
theorem dX0_reckonDoor_43 : decode cX0_reckonDoor 43 = .ok (.iload_n 1, 1) := by decide +kernel
theorem dX0_reckonDoor_44 : decode cX0_reckonDoor 44 = .ok (.iaload, 1) := by decide +kernel
theorem dX0_reckonDoor_45 : decode cX0_reckonDoor 45 = .ok (.goto 11, 3) := by decide +kernel
theorem dX0_reckonDoor_48 : decode cX0_reckonDoor 48 = .ok (.aload_n 0, 1) := by decide +kernel
theorem dX0_reckonDoor_49 : decode cX0_reckonDoor 49 = .ok (.iload_n 1, 1) := by decide +kernel
theorem dX0_reckonDoor_50 : decode cX0_reckonDoor 50 = .ok (.iload_n 2, 1) := by decide +kernel
theorem dX0_reckonDoor_51 : decode cX0_reckonDoor 51 = .ok (.iload 4, 2) := by decide +kernel
theorem dX0_reckonDoor_53 : decode cX0_reckonDoor 53 = .ok (.invokevirtual 63, 3) := by decide +kernel
theorem dX0_reckonDoor_56 : decode cX0_reckonDoor 56 = .ok (.istore 5, 2) := by decide +kernel
theorem dX0_reckonDoor_58 : decode cX0_reckonDoor 58 = .ok (.aload_n 0, 1) := by decide +kernel
theorem dX0_reckonDoor_59 : decode cX0_reckonDoor 59 = .ok (.getfield 9, 3) := by decide +kernel
theorem dX0_reckonDoor_62 : decode cX0_reckonDoor 62 = .ok (.iload_n 1, 1) := by decide +kernel
theorem dX0_reckonDoor_63 : decode cX0_reckonDoor 63 = .ok (.iload_n 2, 1) := by decide +kernel
theorem dX0_reckonDoor_64 : decode cX0_reckonDoor 64 = .ok (.iload 4, 2) := by decide +kernel
theorem dX0_reckonDoor_66 : decode cX0_reckonDoor 66 = .ok (.invokestatic 67, 3) := by decide +kernel
theorem dX0_reckonDoor_69 : decode cX0_reckonDoor 69 = .ok (.aload_n 0, 1) := by decide +kernel
theorem dX0_reckonDoor_70 : decode cX0_reckonDoor 70 = .ok (.getfield 24, 3) := by decide +kernel
theorem dX0_reckonDoor_73 : decode cX0_reckonDoor 73 = .ok (.invokevirtual 70, 3) := by decide +kernel
theorem dX0_reckonDoor_76 : decode cX0_reckonDoor 76 = .ok (.iload 5, 2) := by decide +kernel
theorem dX0_reckonDoor_78 : decode cX0_reckonDoor 78 = .ok (.iadd, 1) := by decide +kernel
theorem dX0_reckonDoor_79 : decode cX0_reckonDoor 79 = .ok (.iastore, 1) := by decide +kernel
theorem dX0_reckonDoor_80 : decode cX0_reckonDoor 80 = .ok (.iinc 4 1, 3) := by decide +kernel
theorem dX0_reckonDoor_83 : decode cX0_reckonDoor 83 = .ok (.goto (-61), 3) := by decide +kernel
theorem dX0_reckonDoor_86 : decode cX0_reckonDoor 86 = .ok (.return_, 1) := by decide +kernel
theorem f_x_reckonStart_rows : True := trivial
theorem dX0_reckonStart_0 : decode cX0_reckonStart 0 = .ok (.aload_n 0, 1) := by decide +kernel
theorem dX0_reckonStart_1 : decode cX0_reckonStart 1 = .ok (.getfield 24, 3) := by decide +kernel
theorem dX0_reckonStart_4 : decode cX0_reckonStart 4 = .ok (.iconst 0, 1) := by decide +kernel
theorem dX0_reckonStart_5 : decode cX0_reckonStart 5 = .ok (.invokevirtual 60, 3) := by decide +kernel
theorem dX0_reckonStart_8 : decode cX0_reckonStart 8 = .ok (.istore_n 2, 1) := by decide +kernel
theorem dX0_reckonStart_9 : decode cX0_reckonStart 9 = .ok (.iconst 0, 1) := by decide +kernel
theorem dX0_reckonStart_10 : decode cX0_reckonStart 10 = .ok (.istore_n 3, 1) := by decide +kernel
theorem dX0_reckonStart_11 : decode cX0_reckonStart 11 = .ok (.iload_n 3, 1) := by decide +kernel
theorem dX0_reckonStart_12 : decode cX0_reckonStart 12 = .ok (.iload_n 2, 1) := by decide +kernel
theorem dX0_reckonStart_13 : decode cX0_reckonStart 13 = .ok (.if_icmp .ge 28, 3) := by decide +kernel
theorem dX0_reckonStart_16 : decode cX0_reckonStart 16 = .ok (.iload_n 3, 1) := by decide +kernel
theorem dX0_reckonStart_17 : decode cX0_reckonStart 17 = .ok (.bipush 8, 2) := by decide +kernel
theorem dX0_reckonStart_19 : decode cX0_reckonStart 19 = .ok (.if_icmp .ge 22, 3) := by decide +kernel
theorem dX0_reckonStart_22 : decode cX0_reckonStart 22 = .ok (.aload_n 0, 1) := by decide +kernel
theorem dX0_reckonStart_23 : decode cX0_reckonStart 23 = .ok (.getfield 21, 3) := by decide +kernel
theorem dX0_reckonStart_26 : decode cX0_reckonStart 26 = .ok (.iload_n 3, 1) := by decide +kernel
theorem dX0_reckonStart_27 : decode cX0_reckonStart 27 = .ok (.aload_n 0, 1) := by decide +kernel
theorem dX0_reckonStart_28 : decode cX0_reckonStart 28 = .ok (.iload_n 1, 1) := by decide +kernel
theorem dX0_reckonStart_29 : decode cX0_reckonStart 29 = .ok (.iconst 0, 1) := by decide +kernel
theorem dX0_reckonStart_30 : decode cX0_reckonStart 30 = .ok (.iload_n 3, 1) := by decide +kernel
theorem dX0_reckonStart_31 : decode cX0_reckonStart 31 = .ok (.invokevirtual 73, 3) := by decide +kernel
theorem dX0_reckonStart_34 : decode cX0_reckonStart 34 = .ok (.iastore, 1) := by decide +kernel
theorem dX0_reckonStart_35 : decode cX0_reckonStart 35 = .ok (.iinc 3 1, 3) := by decide +kernel
theorem dX0_reckonStart_38 : decode cX0_reckonStart 38 = .ok (.goto (-27), 3) := by decide +kernel
theorem dX0_reckonStart_41 : decode cX0_reckonStart 41 = .ok (.aload_n 0, 1) := by decide +kernel
theorem dX0_reckonStart_42 : decode cX0_reckonStart 42 = .ok (.getfield 24, 3) := by decide +kernel
theorem dX0_reckonStart_45 : decode cX0_reckonStart 45 = .ok (.getfield 28, 3) := by decide +kernel
theorem dX0_reckonStart_48 : decode cX0_reckonStart 48 = .ok (.bipush 6, 2) := by decide +kernel
theorem dX0_reckonStart_50 : decode cX0_reckonStart 50 = .ok (.iaload, 1) := by decide +kernel
theorem dX0_reckonStart_51 : decode cX0_reckonStart 51 = .ok (.istore_n 3, 1) := by decide +kernel
theorem dX0_reckonStart_52 : decode cX0_reckonStart 52 = .ok (.iload_n 3, 1) := by decide +kernel
theorem dX0_reckonStart_53 : decode cX0_reckonStart 53 = .ok (.ifCond .lt 95, 3) := by decide +kernel
theorem dX0_reckonStart_56 : decode cX0_reckonStart 56 = .ok (.iconst 1, 1) := by decide +kernel
theorem dX0_reckonStart_57 : decode cX0_reckonStart 57 = .ok (.iload_n 3, 1) := by decide +kernel
theorem dX0_reckonStart_58 : decode cX0_reckonStart 58 = .ok (.ishl, 1) := by decide +kernel
theorem dX0_reckonStart_59 : decode cX0_reckonStart 59 = .ok (.istore 4, 2) := by decide +kernel
theorem dX0_reckonStart_61 : decode cX0_reckonStart 61 = .ok (.iconst 0, 1) := by decide +kernel
theorem dX0_reckonStart_62 : decode cX0_reckonStart 62 = .ok (.istore 5, 2) := by decide +kernel
theorem dX0_reckonStart_64 : decode cX0_reckonStart 64 = .ok (.iload 4, 2) := by decide +kernel
theorem dX0_reckonStart_66 : decode cX0_reckonStart 66 = .ok (.iload_n 2, 1) := by decide +kernel
theorem dX0_reckonStart_67 : decode cX0_reckonStart 67 = .ok (.if_icmp .ge 75, 3) := by decide +kernel
theorem dX0_reckonStart_70 : decode cX0_reckonStart 70 = .ok (.iload 5, 2) := by decide +kernel
theorem dX0_reckonStart_72 : decode cX0_reckonStart 72 = .ok (.iload 4, 2) := by decide +kernel
theorem dX0_reckonStart_74 : decode cX0_reckonStart 74 = .ok (.if_icmp .ge 68, 3) := by decide +kernel
theorem dX0_reckonStart_77 : decode cX0_reckonStart 77 = .ok (.iload_n 3, 1) := by decide +kernel
theorem dX0_reckonStart_78 : decode cX0_reckonStart 78 = .ok (.ifCond .le 18, 3) := by decide +kernel
theorem dX0_reckonStart_81 : decode cX0_reckonStart 81 = .ok (.iload 5, 2) := by decide +kernel
theorem dX0_reckonStart_83 : decode cX0_reckonStart 83 = .ok (.iload_n 3, 1) := by decide +kernel
theorem dX0_reckonStart_84 : decode cX0_reckonStart 84 = .ok (.iconst 1, 1) := by decide +kernel
theorem dX0_reckonStart_85 : decode cX0_reckonStart 85 = .ok (.isub, 1) := by decide +kernel
theorem dX0_reckonStart_86 : decode cX0_reckonStart 86 = .ok (.ishr, 1) := by decide +kernel
theorem dX0_reckonStart_87 : decode cX0_reckonStart 87 = .ok (.iconst 1, 1) := by decide +kernel
theorem dX0_reckonStart_88 : decode cX0_reckonStart 88 = .ok (.iand, 1) := by decide +kernel
theorem dX0_reckonStart_89 : decode cX0_reckonStart 89 = .ok (.ifCond .eq 7, 3) := by decide +kernel
theorem dX0_reckonStart_92 : decode cX0_reckonStart 92 = .ok (.iconst 1, 1) := by decide +kernel
theorem dX0_reckonStart_93 : decode cX0_reckonStart 93 = .ok (.goto 4, 3) := by decide +kernel
theorem dX0_reckonStart_96 : decode cX0_reckonStart 96 = .ok (.iconst 0, 1) := by decide +kernel
theorem dX0_reckonStart_97 : decode cX0_reckonStart 97 = .ok (.istore 6, 2) := by decide +kernel
theorem dX0_reckonStart_99 : decode cX0_reckonStart 99 = .ok (.aload_n 0, 1) := by decide +kernel
theorem dX0_reckonStart_100 : decode cX0_reckonStart 100 = .ok (.getfield 21, 3) := by decide +kernel
theorem dX0_reckonStart_103 : decode cX0_reckonStart 103 = .ok (.iload 5, 2) := by decide +kernel
theorem dX0_reckonStart_105 : decode cX0_reckonStart 105 = .ok (.aload_n 0, 1) := by decide +kernel
theorem dX0_reckonStart_106 : decode cX0_reckonStart 106 = .ok (.getfield 24, 3) := by decide +kernel
theorem dX0_reckonStart_109 : decode cX0_reckonStart 109 = .ok (.iload_n 3, 1) := by decide +kernel
theorem dX0_reckonStart_110 : decode cX0_reckonStart 110 = .ok (.iload 6, 2) := by decide +kernel
theorem dX0_reckonStart_112 : decode cX0_reckonStart 112 = .ok (.invokevirtual 76, 3) := by decide +kernel
theorem dX0_reckonStart_115 : decode cX0_reckonStart 115 = .ok (.aload_n 0, 1) := by decide +kernel
theorem dX0_reckonStart_116 : decode cX0_reckonStart 116 = .ok (.getfield 21, 3) := by decide +kernel
theorem dX0_reckonStart_119 : decode cX0_reckonStart 119 = .ok (.iload 5, 2) := by decide +kernel
theorem dX0_reckonStart_121 : decode cX0_reckonStart 121 = .ok (.iload 4, 2) := by decide +kernel
theorem dX0_reckonStart_123 : decode cX0_reckonStart 123 = .ok (.ior, 1) := by decide +kernel
theorem dX0_reckonStart_124 : decode cX0_reckonStart 124 = .ok (.iaload, 1) := by decide +kernel
theorem dX0_reckonStart_125 : decode cX0_reckonStart 125 = .ok (.aload_n 0, 1) := by decide +kernel
theorem dX0_reckonStart_126 : decode cX0_reckonStart 126 = .ok (.getfield 21, 3) := by decide +kernel
theorem dX0_reckonStart_129 : decode cX0_reckonStart 129 = .ok (.iload 5, 2) := by decide +kernel
theorem dX0_reckonStart_131 : decode cX0_reckonStart 131 = .ok (.iaload, 1) := by decide +kernel
theorem dX0_reckonStart_132 : decode cX0_reckonStart 132 = .ok (.invokestatic 80, 3) := by decide +kernel
theorem dX0_reckonStart_135 : decode cX0_reckonStart 135 = .ok (.iastore, 1) := by decide +kernel
theorem dX0_reckonStart_136 : decode cX0_reckonStart 136 = .ok (.iinc 5 1, 3) := by decide +kernel
theorem dX0_reckonStart_139 : decode cX0_reckonStart 139 = .ok (.goto (-75), 3) := by decide +kernel
theorem dX0_reckonStart_142 : decode cX0_reckonStart 142 = .ok (.iinc 3 (-1), 3) := by decide +kernel
theorem dX0_reckonStart_145 : decode cX0_reckonStart 145 = .ok (.goto (-93), 3) := by decide +kernel
theorem dX0_reckonStart_148 : decode cX0_reckonStart 148 = .ok (.aload_n 0, 1) := by decide +kernel
theorem dX0_reckonStart_149 : decode cX0_reckonStart 149 = .ok (.getfield 21, 3) := by decide +kernel
theorem dX0_reckonStart_152 : decode cX0_reckonStart 152 = .ok (.iconst 0, 1) := by decide +kernel
theorem dX0_reckonStart_153 : decode cX0_reckonStart 153 = .ok (.iaload, 1) := by decide +kernel
theorem dX0_reckonStart_154 : decode cX0_reckonStart 154 = .ok (.ireturn, 1) := by decide +kernel
theorem f_x_reckon_rows : True := trivial
theorem dX0_reckon_0 : decode cX0_reckon 0 = .ok (.aload_n 0, 1) := by decide +kernel
theorem dX0_reckon_1 : decode cX0_reckon 1 = .ok (.getfield 24, 3) := by decide +kernel
theorem dX0_reckon_4 : decode cX0_reckon 4 = .ok (.getfield 28, 3) := by decide +kernel
theorem dX0_reckon_7 : decode cX0_reckon 7 = .ok (.bipush 8, 2) := by decide +kernel
theorem dX0_reckon_9 : decode cX0_reckon 9 = .ok (.iaload, 1) := by decide +kernel
theorem dX0_reckon_10 : decode cX0_reckon 10 = .ok (.istore_n 1, 1) := by decide +kernel
theorem dX0_reckon_11 : decode cX0_reckon 11 = .ok (.iload_n 1, 1) := by decide +kernel
theorem dX0_reckon_12 : decode cX0_reckon 12 = .ok (.ifCond .lt 57, 3) := by decide +kernel
theorem dX0_reckon_15 : decode cX0_reckon 15 = .ok (.aload_n 0, 1) := by decide +kernel
theorem dX0_reckon_16 : decode cX0_reckon 16 = .ok (.getfield 18, 3) := by decide +kernel
theorem dX0_reckon_19 : decode cX0_reckon 19 = .ok (.iload_n 1, 1) := by decide +kernel
theorem dX0_reckon_20 : decode cX0_reckon 20 = .ok (.aload_n 0, 1) := by decide +kernel
theorem dX0_reckon_21 : decode cX0_reckon 21 = .ok (.iload_n 1, 1) := by decide +kernel
theorem dX0_reckon_22 : decode cX0_reckon 22 = .ok (.invokevirtual 33, 3) := by decide +kernel
theorem dX0_reckon_25 : decode cX0_reckon 25 = .ok (.iastore, 1) := by decide +kernel
theorem dX0_reckon_26 : decode cX0_reckon 26 = .ok (.aload_n 0, 1) := by decide +kernel
theorem dX0_reckon_27 : decode cX0_reckon 27 = .ok (.getfield 24, 3) := by decide +kernel
theorem dX0_reckon_30 : decode cX0_reckon 30 = .ok (.invokevirtual 37, 3) := by decide +kernel
theorem dX0_reckon_33 : decode cX0_reckon 33 = .ok (.iconst 1, 1) := by decide +kernel
theorem dX0_reckon_34 : decode cX0_reckon 34 = .ok (.isub, 1) := by decide +kernel
theorem dX0_reckon_35 : decode cX0_reckon 35 = .ok (.istore_n 2, 1) := by decide +kernel
theorem dX0_reckon_36 : decode cX0_reckon 36 = .ok (.iload_n 2, 1) := by decide +kernel
theorem dX0_reckon_37 : decode cX0_reckon 37 = .ok (.ifCond .lt 15, 3) := by decide +kernel
theorem dX0_reckon_40 : decode cX0_reckon 40 = .ok (.aload_n 0, 1) := by decide +kernel
theorem dX0_reckon_41 : decode cX0_reckon 41 = .ok (.iload_n 1, 1) := by decide +kernel
theorem dX0_reckon_42 : decode cX0_reckon 42 = .ok (.iload_n 2, 1) := by decide +kernel
theorem dX0_reckon_43 : decode cX0_reckon 43 = .ok (.invokevirtual 41, 3) := by decide +kernel
theorem dX0_reckon_46 : decode cX0_reckon 46 = .ok (.iinc 2 (-1), 3) := by decide +kernel
theorem dX0_reckon_49 : decode cX0_reckon 49 = .ok (.goto (-13), 3) := by decide +kernel
theorem dX0_reckon_52 : decode cX0_reckon 52 = .ok (.aload_n 0, 1) := by decide +kernel
theorem dX0_reckon_53 : decode cX0_reckon 53 = .ok (.getfield 15, 3) := by decide +kernel
theorem dX0_reckon_56 : decode cX0_reckon 56 = .ok (.iload_n 1, 1) := by decide +kernel
theorem dX0_reckon_57 : decode cX0_reckon 57 = .ok (.aload_n 0, 1) := by decide +kernel
theorem dX0_reckon_58 : decode cX0_reckon 58 = .ok (.iload_n 1, 1) := by decide +kernel
theorem dX0_reckon_59 : decode cX0_reckon 59 = .ok (.invokevirtual 45, 3) := by decide +kernel
theorem dX0_reckon_62 : decode cX0_reckon 62 = .ok (.iastore, 1) := by decide +kernel
theorem dX0_reckon_63 : decode cX0_reckon 63 = .ok (.iinc 1 (-1), 3) := by decide +kernel
theorem dX0_reckon_66 : decode cX0_reckon 66 = .ok (.goto (-55), 3) := by decide +kernel
theorem dX0_reckon_69 : decode cX0_reckon 69 = .ok (.return_, 1) := by decide +kernel
theorem f_x_isTakenByAll_rows : True := trivial
theorem dX0_isTakenByAll_0 : decode cX0_isTakenByAll 0 = .ok (.iconst 1, 1) := by decide +kernel
theorem dX0_isTakenByAll_1 : decode cX0_isTakenByAll 1 = .ok (.istore_n 3, 1) := by decide +kernel
theorem dX0_isTakenByAll_2 : decode cX0_isTakenByAll 2 = .ok (.iload_n 3, 1) := by decide +kernel
theorem dX0_isTakenByAll_3 : decode cX0_isTakenByAll 3 = .ok (.aload_n 0, 1) := by decide +kernel
theorem dX0_isTakenByAll_4 : decode cX0_isTakenByAll 4 = .ok (.getfield 24, 3) := by decide +kernel
theorem dX0_isTakenByAll_7 : decode cX0_isTakenByAll 7 = .ok (.iload_n 2, 1) := by decide +kernel
theorem dX0_isTakenByAll_8 : decode cX0_isTakenByAll 8 = .ok (.invokevirtual 60, 3) := by decide +kernel
theorem dX0_isTakenByAll_11 : decode cX0_isTakenByAll 11 = .ok (.if_icmp .ge 21, 3) := by decide +kernel
theorem dX0_isTakenByAll_14 : decode cX0_isTakenByAll 14 = .ok (.aload_n 0, 1) := by decide +kernel
theorem dX0_isTakenByAll_15 : decode cX0_isTakenByAll 15 = .ok (.iload_n 1, 1) := by decide +kernel
theorem dX0_isTakenByAll_16 : decode cX0_isTakenByAll 16 = .ok (.iload_n 2, 1) := by decide +kernel
theorem dX0_isTakenByAll_17 : decode cX0_isTakenByAll 17 = .ok (.iload_n 3, 1) := by decide +kernel
theorem dX0_isTakenByAll_18 : decode cX0_isTakenByAll 18 = .ok (.invokevirtual 96, 3) := by decide +kernel
theorem dX0_isTakenByAll_21 : decode cX0_isTakenByAll 21 = .ok (.ifCond .ne 5, 3) := by decide +kernel
theorem dX0_isTakenByAll_24 : decode cX0_isTakenByAll 24 = .ok (.iconst 0, 1) := by decide +kernel
theorem dX0_isTakenByAll_25 : decode cX0_isTakenByAll 25 = .ok (.ireturn, 1) := by decide +kernel
theorem dX0_isTakenByAll_26 : decode cX0_isTakenByAll 26 = .ok (.iinc 3 2, 3) := by decide +kernel
theorem dX0_isTakenByAll_29 : decode cX0_isTakenByAll 29 = .ok (.goto (-27), 3) := by decide +kernel
theorem dX0_isTakenByAll_32 : decode cX0_isTakenByAll 32 = .ok (.iconst 1, 1) := by decide +kernel
theorem dX0_isTakenByAll_33 : decode cX0_isTakenByAll 33 = .ok (.ireturn, 1) := by decide +kernel
theorem f_x_isTakenByAny_rows : True := trivial
theorem dX0_isTakenByAny_0 : decode cX0_isTakenByAny 0 = .ok (.iconst 1, 1) := by decide +kernel
theorem dX0_isTakenByAny_1 : decode cX0_isTakenByAny 1 = .ok (.istore_n 3, 1) := by decide +kernel
theorem dX0_isTakenByAny_2 : decode cX0_isTakenByAny 2 = .ok (.iload_n 3, 1) := by decide +kernel
theorem dX0_isTakenByAny_3 : decode cX0_isTakenByAny 3 = .ok (.aload_n 0, 1) := by decide +kernel
theorem dX0_isTakenByAny_4 : decode cX0_isTakenByAny 4 = .ok (.getfield 24, 3) := by decide +kernel
theorem dX0_isTakenByAny_7 : decode cX0_isTakenByAny 7 = .ok (.iload_n 2, 1) := by decide +kernel
theorem dX0_isTakenByAny_8 : decode cX0_isTakenByAny 8 = .ok (.invokevirtual 60, 3) := by decide +kernel
theorem dX0_isTakenByAny_11 : decode cX0_isTakenByAny 11 = .ok (.if_icmp .ge 21, 3) := by decide +kernel
theorem dX0_isTakenByAny_14 : decode cX0_isTakenByAny 14 = .ok (.aload_n 0, 1) := by decide +kernel
theorem dX0_isTakenByAny_15 : decode cX0_isTakenByAny 15 = .ok (.iload_n 1, 1) := by decide +kernel
theorem dX0_isTakenByAny_16 : decode cX0_isTakenByAny 16 = .ok (.iload_n 2, 1) := by decide +kernel
theorem dX0_isTakenByAny_17 : decode cX0_isTakenByAny 17 = .ok (.iload_n 3, 1) := by decide +kernel
theorem dX0_isTakenByAny_18 : decode cX0_isTakenByAny 18 = .ok (.invokevirtual 96, 3) := by decide +kernel
theorem dX0_isTakenByAny_21 : decode cX0_isTakenByAny 21 = .ok (.ifCond .eq 5, 3) := by decide +kernel
theorem dX0_isTakenByAny_24 : decode cX0_isTakenByAny 24 = .ok (.iconst 1, 1) := by decide +kernel
theorem dX0_isTakenByAny_25 : decode cX0_isTakenByAny 25 = .ok (.ireturn, 1) := by decide +kernel
theorem dX0_isTakenByAny_26 : decode cX0_isTakenByAny 26 = .ok (.iinc 3 2, 3) := by decide +kernel
theorem dX0_isTakenByAny_29 : decode cX0_isTakenByAny 29 = .ok (.goto (-27), 3) := by decide +kernel
theorem dX0_isTakenByAny_32 : decode cX0_isTakenByAny 32 = .ok (.iconst 0, 1) := by decide +kernel
theorem dX0_isTakenByAny_33 : decode cX0_isTakenByAny 33 = .ok (.ireturn, 1) := by decide +kernel
theorem f_x_barOf_rows : True := trivial
theorem dX0_barOf_0 : decode cX0_barOf 0 = .ok (.aload_n 0, 1) := by decide +kernel
theorem dX0_barOf_1 : decode cX0_barOf 1 = .ok (.getfield 24, 3) := by decide +kernel
theorem dX0_barOf_4 : decode cX0_barOf 4 = .ok (.invokevirtual 37, 3) := by decide +kernel
theorem dX0_barOf_7 : decode cX0_barOf 7 = .ok (.istore_n 2, 1) := by decide +kernel
theorem dX0_barOf_8 : decode cX0_barOf 8 = .ok (.iload_n 2, 1) := by decide +kernel
theorem dX0_barOf_9 : decode cX0_barOf 9 = .ok (.ifCond .le 20, 3) := by decide +kernel
theorem dX0_barOf_12 : decode cX0_barOf 12 = .ok (.aload_n 0, 1) := by decide +kernel
theorem dX0_barOf_13 : decode cX0_barOf 13 = .ok (.iload_n 1, 1) := by decide +kernel
theorem dX0_barOf_14 : decode cX0_barOf 14 = .ok (.iload_n 2, 1) := by decide +kernel
theorem dX0_barOf_15 : decode cX0_barOf 15 = .ok (.iconst 1, 1) := by decide +kernel
theorem dX0_barOf_16 : decode cX0_barOf 16 = .ok (.isub, 1) := by decide +kernel
theorem dX0_barOf_17 : decode cX0_barOf 17 = .ok (.invokevirtual 89, 3) := by decide +kernel
theorem dX0_barOf_20 : decode cX0_barOf 20 = .ok (.ifCond .eq 9, 3) := by decide +kernel
theorem dX0_barOf_23 : decode cX0_barOf 23 = .ok (.iinc 2 (-1), 3) := by decide +kernel
theorem dX0_barOf_26 : decode cX0_barOf 26 = .ok (.goto (-18), 3) := by decide +kernel
theorem dX0_barOf_29 : decode cX0_barOf 29 = .ok (.iconst 0, 1) := by decide +kernel
theorem dX0_barOf_30 : decode cX0_barOf 30 = .ok (.istore_n 3, 1) := by decide +kernel
theorem dX0_barOf_31 : decode cX0_barOf 31 = .ok (.iload_n 3, 1) := by decide +kernel
theorem dX0_barOf_32 : decode cX0_barOf 32 = .ok (.iload_n 2, 1) := by decide +kernel
theorem dX0_barOf_33 : decode cX0_barOf 33 = .ok (.if_icmp .ge 20, 3) := by decide +kernel
theorem dX0_barOf_36 : decode cX0_barOf 36 = .ok (.aload_n 0, 1) := by decide +kernel
theorem dX0_barOf_37 : decode cX0_barOf 37 = .ok (.iload_n 1, 1) := by decide +kernel
theorem dX0_barOf_38 : decode cX0_barOf 38 = .ok (.iload_n 3, 1) := by decide +kernel
theorem dX0_barOf_39 : decode cX0_barOf 39 = .ok (.invokevirtual 93, 3) := by decide +kernel
theorem dX0_barOf_42 : decode cX0_barOf 42 = .ok (.ifCond .eq 5, 3) := by decide +kernel
theorem dX0_barOf_45 : decode cX0_barOf 45 = .ok (.iconst (-1), 1) := by decide +kernel
theorem dX0_barOf_46 : decode cX0_barOf 46 = .ok (.ireturn, 1) := by decide +kernel
theorem dX0_barOf_47 : decode cX0_barOf 47 = .ok (.iinc 3 1, 3) := by decide +kernel
theorem dX0_barOf_50 : decode cX0_barOf 50 = .ok (.goto (-19), 3) := by decide +kernel
theorem dX0_barOf_53 : decode cX0_barOf 53 = .ok (.iload_n 2, 1) := by decide +kernel
theorem dX0_barOf_54 : decode cX0_barOf 54 = .ok (.ireturn, 1) := by decide +kernel
theorem f_x_firstWrong_rows : True := trivial
theorem dX0_firstWrong_0 : decode cX0_firstWrong 0 = .ok (.aload_n 2, 1) := by decide +kernel
theorem dX0_firstWrong_1 : decode cX0_firstWrong 1 = .ok (.getfield 100, 3) := by decide +kernel
theorem dX0_firstWrong_4 : decode cX0_firstWrong 4 = .ok (.aload_n 0, 1) := by decide +kernel
theorem dX0_firstWrong_5 : decode cX0_firstWrong 5 = .ok (.getfield 24, 3) := by decide +kernel
theorem dX0_firstWrong_8 : decode cX0_firstWrong 8 = .ok (.invokevirtual 37, 3) := by decide +kernel
theorem dX0_firstWrong_11 : decode cX0_firstWrong 11 = .ok (.invokestatic 54, 3) := by decide +kernel
theorem dX0_firstWrong_14 : decode cX0_firstWrong 14 = .ok (.istore 4, 2) := by decide +kernel
theorem dX0_firstWrong_16 : decode cX0_firstWrong 16 = .ok (.iconst 0, 1) := by decide +kernel
theorem dX0_firstWrong_17 : decode cX0_firstWrong 17 = .ok (.istore 5, 2) := by decide +kernel
theorem dX0_firstWrong_19 : decode cX0_firstWrong 19 = .ok (.iload 5, 2) := by decide +kernel
theorem dX0_firstWrong_21 : decode cX0_firstWrong 21 = .ok (.iload 4, 2) := by decide +kernel
theorem dX0_firstWrong_23 : decode cX0_firstWrong 23 = .ok (.if_icmp .ge 110, 3) := by decide +kernel
theorem dX0_firstWrong_26 : decode cX0_firstWrong 26 = .ok (.iload 5, 2) := by decide +kernel
theorem dX0_firstWrong_28 : decode cX0_firstWrong 28 = .ok (.aload_n 0, 1) := by decide +kernel
theorem dX0_firstWrong_29 : decode cX0_firstWrong 29 = .ok (.getfield 24, 3) := by decide +kernel
theorem dX0_firstWrong_32 : decode cX0_firstWrong 32 = .ok (.getfield 28, 3) := by decide +kernel
theorem dX0_firstWrong_35 : decode cX0_firstWrong 35 = .ok (.bipush 6, 2) := by decide +kernel
theorem dX0_firstWrong_37 : decode cX0_firstWrong 37 = .ok (.iaload, 1) := by decide +kernel
theorem dX0_firstWrong_38 : decode cX0_firstWrong 38 = .ok (.iadd, 1) := by decide +kernel
theorem dX0_firstWrong_39 : decode cX0_firstWrong 39 = .ok (.iconst 1, 1) := by decide +kernel
theorem dX0_firstWrong_40 : decode cX0_firstWrong 40 = .ok (.iadd, 1) := by decide +kernel
theorem dX0_firstWrong_41 : decode cX0_firstWrong 41 = .ok (.aload_n 0, 1) := by decide +kernel
theorem dX0_firstWrong_42 : decode cX0_firstWrong 42 = .ok (.getfield 24, 3) := by decide +kernel
theorem dX0_firstWrong_45 : decode cX0_firstWrong 45 = .ok (.invokevirtual 37, 3) := by decide +kernel
theorem dX0_firstWrong_48 : decode cX0_firstWrong 48 = .ok (.invokestatic 54, 3) := by decide +kernel
theorem dX0_firstWrong_51 : decode cX0_firstWrong 51 = .ok (.istore 6, 2) := by decide +kernel
theorem dX0_firstWrong_53 : decode cX0_firstWrong 53 = .ok (.iload 6, 2) := by decide +kernel
theorem dX0_firstWrong_55 : decode cX0_firstWrong 55 = .ok (.iload 4, 2) := by decide +kernel
theorem dX0_firstWrong_57 : decode cX0_firstWrong 57 = .ok (.if_icmp .gt 70, 3) := by decide +kernel
theorem dX0_firstWrong_60 : decode cX0_firstWrong 60 = .ok (.aload_n 2, 1) := by decide +kernel
theorem dX0_firstWrong_61 : decode cX0_firstWrong 61 = .ok (.iload 5, 2) := by decide +kernel
theorem dX0_firstWrong_63 : decode cX0_firstWrong 63 = .ok (.invokevirtual 106, 3) := by decide +kernel
theorem dX0_firstWrong_66 : decode cX0_firstWrong 66 = .ok (.ifCond .eq 61, 3) := by decide +kernel
theorem dX0_firstWrong_69 : decode cX0_firstWrong 69 = .ok (.aload_n 2, 1) := by decide +kernel
theorem dX0_firstWrong_70 : decode cX0_firstWrong 70 = .ok (.getfield 110, 3) := by decide +kernel
theorem dX0_firstWrong_73 : decode cX0_firstWrong 73 = .ok (.iload 5, 2) := by decide +kernel
theorem dX0_firstWrong_75 : decode cX0_firstWrong 75 = .ok (.ishr, 1) := by decide +kernel
theorem dX0_firstWrong_76 : decode cX0_firstWrong 76 = .ok (.aload_n 0, 1) := by decide +kernel
theorem dX0_firstWrong_77 : decode cX0_firstWrong 77 = .ok (.getfield 24, 3) := by decide +kernel
theorem dX0_firstWrong_80 : decode cX0_firstWrong 80 = .ok (.iload 5, 2) := by decide +kernel
theorem dX0_firstWrong_82 : decode cX0_firstWrong 82 = .ok (.invokevirtual 60, 3) := by decide +kernel
theorem dX0_firstWrong_85 : decode cX0_firstWrong 85 = .ok (.iconst 1, 1) := by decide +kernel
theorem dX0_firstWrong_86 : decode cX0_firstWrong 86 = .ok (.isub, 1) := by decide +kernel
theorem dX0_firstWrong_87 : decode cX0_firstWrong 87 = .ok (.iand, 1) := by decide +kernel
theorem dX0_firstWrong_88 : decode cX0_firstWrong 88 = .ok (.istore 7, 2) := by decide +kernel
theorem dX0_firstWrong_90 : decode cX0_firstWrong 90 = .ok (.iload_n 3, 1) := by decide +kernel
theorem dX0_firstWrong_91 : decode cX0_firstWrong 91 = .ok (.ifCond .eq 16, 3) := by decide +kernel
theorem dX0_firstWrong_94 : decode cX0_firstWrong 94 = .ok (.iload 5, 2) := by decide +kernel
theorem dX0_firstWrong_96 : decode cX0_firstWrong 96 = .ok (.iload 4, 2) := by decide +kernel
theorem dX0_firstWrong_98 : decode cX0_firstWrong 98 = .ok (.iconst 1, 1) := by decide +kernel
theorem dX0_firstWrong_99 : decode cX0_firstWrong 99 = .ok (.isub, 1) := by decide +kernel
theorem dX0_firstWrong_100 : decode cX0_firstWrong 100 = .ok (.if_icmp .ne 7, 3) := by decide +kernel
theorem dX0_firstWrong_103 : decode cX0_firstWrong 103 = .ok (.iconst 1, 1) := by decide +kernel
theorem dX0_firstWrong_104 : decode cX0_firstWrong 104 = .ok (.goto 4, 3) := by decide +kernel
theorem dX0_firstWrong_107 : decode cX0_firstWrong 107 = .ok (.iconst 0, 1) := by decide +kernel
theorem dX0_firstWrong_108 : decode cX0_firstWrong 108 = .ok (.istore 8, 2) := by decide +kernel
theorem dX0_firstWrong_110 : decode cX0_firstWrong 110 = .ok (.aload_n 0, 1) := by decide +kernel
theorem dX0_firstWrong_111 : decode cX0_firstWrong 111 = .ok (.iload_n 1, 1) := by decide +kernel
theorem dX0_firstWrong_112 : decode cX0_firstWrong 112 = .ok (.iload 5, 2) := by decide +kernel
theorem dX0_firstWrong_114 : decode cX0_firstWrong 114 = .ok (.iload 7, 2) := by decide +kernel
theorem dX0_firstWrong_116 : decode cX0_firstWrong 116 = .ok (.invokevirtual 96, 3) := by decide +kernel
theorem dX0_firstWrong_119 : decode cX0_firstWrong 119 = .ok (.iload 8, 2) := by decide +kernel
theorem dX0_firstWrong_121 : decode cX0_firstWrong 121 = .ok (.if_icmp .eq 6, 3) := by decide +kernel
theorem dX0_firstWrong_124 : decode cX0_firstWrong 124 = .ok (.iload 5, 2) := by decide +kernel
theorem dX0_firstWrong_126 : decode cX0_firstWrong 126 = .ok (.ireturn, 1) := by decide +kernel
theorem dX0_firstWrong_127 : decode cX0_firstWrong 127 = .ok (.iinc 5 1, 3) := by decide +kernel
theorem dX0_firstWrong_130 : decode cX0_firstWrong 130 = .ok (.goto (-111), 3) := by decide +kernel
theorem dX0_firstWrong_133 : decode cX0_firstWrong 133 = .ok (.iconst (-1), 1) := by decide +kernel
theorem dX0_firstWrong_134 : decode cX0_firstWrong 134 = .ok (.ireturn, 1) := by decide +kernel

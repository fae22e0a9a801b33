theorem m_glue6 : True := trivial
theorem sg_upd (se tm : Nat → Nat) (g : Nat → Int32) (i : Nat) (x : Int32) (h5 : i % 9 ≠ 5) (h7 : i % 9 ≠ 7) : upd (sg se tm g) i x = sg se tm (upd g i x) := by
  funext j
  unfold upd sg
  by_cases h : j = i
  · subst h
    simp [h5, h7]
  · simp [h]
theorem sg_upd5 (se tm : Nat → Nat) (g : Nat → Int32) (s a : Nat) : upd (sg se tm g) (9 * s + 5) (nI a) = sg (fun j => if j = s then a else se j) tm g := by
  funext j
  unfold upd sg
  by_cases h : j = 9 * s + 5
  · subst h
    simp only [if_true, if_pos (show (9 * s + 5) % 9 = 5 by omega), if_pos (show (9 * s + 5) / 9 = s by omega)]
  · rw [if_neg h]
    by_cases h5 : j % 9 = 5
    · rw [if_pos h5, if_pos h5]
      show nI (se (j / 9)) = nI (if j / 9 = s then a else se (j / 9))
      rw [if_neg (show ¬ j / 9 = s by omega)]
    · rw [if_neg h5, if_neg h5]
theorem sg_upd7 (se tm : Nat → Nat) (g : Nat → Int32) (s a : Nat) : upd (sg se tm g) (9 * s + 7) (nI a) = sg se (fun j => if j = s then a else tm j) g := by
  funext j
  unfold upd sg
  by_cases h : j = 9 * s + 7
  · subst h
    simp only [if_true, if_neg (show ¬ (9 * s + 7) % 9 = 5 by omega), if_pos (show (9 * s + 7) % 9 = 7 by omega), if_pos (show (9 * s + 7) / 9 = s by omega)]
  · rw [if_neg h]
    by_cases h5 : j % 9 = 5
    · rw [if_pos h5, if_pos h5]
    · rw [if_neg h5, if_neg h5]
      by_cases h7 : j % 9 = 7
      · rw [if_pos h7, if_pos h7]
        show nI (tm (j / 9)) = nI (if j / 9 = s then a else tm (j / 9))
        rw [if_neg (show ¬ j / 9 = s by omega)]
      · rw [if_neg h7, if_neg h7]
theorem up_le {d : Nat → Nat} {s a b : Nat} (h : ∀ j, d j ≤ b) (ha : a ≤ b) : ∀ j, (fun j => if j = s then a else d j) j ≤ b := by
  intro j
  show (if j = s then a else d j) ≤ b
  split
  · exact ha
  · exact h j

theorem f_m_takeSingle_rows : True := trivial
theorem dX8_takeSingle_0 : decode cX8_takeSingle 0 = .ok (.iload_n 1, 1) := by decide +kernel
theorem dX8_takeSingle_1 : decode cX8_takeSingle 1 = .ok (.ifCond .ne 22, 3) := by decide +kernel
theorem dX8_takeSingle_4 : decode cX8_takeSingle 4 = .ok (.aload_n 0, 1) := by decide +kernel
theorem dX8_takeSingle_5 : decode cX8_takeSingle 5 = .ok (.bipush 50, 2) := by decide +kernel
theorem dX8_takeSingle_7 : decode cX8_takeSingle 7 = .ok (.invokevirtual 190, 3) := by decide +kernel
theorem dX8_takeSingle_10 : decode cX8_takeSingle 10 = .ok (.istore_n 2, 1) := by decide +kernel
theorem dX8_takeSingle_11 : decode cX8_takeSingle 11 = .ok (.aload_n 0, 1) := by decide +kernel
theorem dX8_takeSingle_12 : decode cX8_takeSingle 12 = .ok (.getfield 35, 3) := by decide +kernel
theorem dX8_takeSingle_15 : decode cX8_takeSingle 15 = .ok (.iconst 0, 1) := by decide +kernel
theorem dX8_takeSingle_16 : decode cX8_takeSingle 16 = .ok (.aload_n 0, 1) := by decide +kernel
theorem dX8_takeSingle_17 : decode cX8_takeSingle 17 = .ok (.getfield 163, 3) := by decide +kernel
theorem dX8_takeSingle_20 : decode cX8_takeSingle 20 = .ok (.iastore, 1) := by decide +kernel
theorem dX8_takeSingle_21 : decode cX8_takeSingle 21 = .ok (.iload_n 2, 1) := by decide +kernel
theorem dX8_takeSingle_22 : decode cX8_takeSingle 22 = .ok (.ireturn, 1) := by decide +kernel
theorem dX8_takeSingle_23 : decode cX8_takeSingle 23 = .ok (.iload_n 1, 1) := by decide +kernel
theorem dX8_takeSingle_24 : decode cX8_takeSingle 24 = .ok (.iconst 4, 1) := by decide +kernel
theorem dX8_takeSingle_25 : decode cX8_takeSingle 25 = .ok (.if_icmp .ne 9, 3) := by decide +kernel
theorem dX8_takeSingle_28 : decode cX8_takeSingle 28 = .ok (.sipush 200, 3) := by decide +kernel
theorem dX8_takeSingle_31 : decode cX8_takeSingle 31 = .ok (.goto 37, 3) := by decide +kernel
theorem dX8_takeSingle_34 : decode cX8_takeSingle 34 = .ok (.iload_n 1, 1) := by decide +kernel
theorem dX8_takeSingle_35 : decode cX8_takeSingle 35 = .ok (.iconst 5, 1) := by decide +kernel
theorem dX8_takeSingle_36 : decode cX8_takeSingle 36 = .ok (.if_icmp .ne 7, 3) := by decide +kernel
theorem dX8_takeSingle_39 : decode cX8_takeSingle 39 = .ok (.iconst 2, 1) := by decide +kernel
theorem dX8_takeSingle_40 : decode cX8_takeSingle 40 = .ok (.goto 28, 3) := by decide +kernel
theorem dX8_takeSingle_43 : decode cX8_takeSingle 43 = .ok (.iload_n 1, 1) := by decide +kernel
theorem dX8_takeSingle_44 : decode cX8_takeSingle 44 = .ok (.bipush 6, 2) := by decide +kernel
theorem dX8_takeSingle_46 : decode cX8_takeSingle 46 = .ok (.if_icmp .ne 8, 3) := by decide +kernel
theorem dX8_takeSingle_49 : decode cX8_takeSingle 49 = .ok (.bipush 60, 2) := by decide +kernel
theorem dX8_takeSingle_51 : decode cX8_takeSingle 51 = .ok (.goto 17, 3) := by decide +kernel
theorem dX8_takeSingle_54 : decode cX8_takeSingle 54 = .ok (.iload_n 1, 1) := by decide +kernel
theorem dX8_takeSingle_55 : decode cX8_takeSingle 55 = .ok (.bipush 8, 2) := by decide +kernel
theorem dX8_takeSingle_57 : decode cX8_takeSingle 57 = .ok (.if_icmp .ne 9, 3) := by decide +kernel
theorem dX8_takeSingle_60 : decode cX8_takeSingle 60 = .ok (.sipush 999, 3) := by decide +kernel
theorem dX8_takeSingle_63 : decode cX8_takeSingle 63 = .ok (.goto 5, 3) := by decide +kernel
theorem dX8_takeSingle_66 : decode cX8_takeSingle 66 = .ok (.bipush 99, 2) := by decide +kernel
theorem dX8_takeSingle_68 : decode cX8_takeSingle 68 = .ok (.istore_n 2, 1) := by decide +kernel
theorem dX8_takeSingle_69 : decode cX8_takeSingle 69 = .ok (.aload_n 0, 1) := by decide +kernel
theorem dX8_takeSingle_70 : decode cX8_takeSingle 70 = .ok (.iconst 0, 1) := by decide +kernel
theorem dX8_takeSingle_71 : decode cX8_takeSingle 71 = .ok (.iload_n 2, 1) := by decide +kernel
theorem dX8_takeSingle_72 : decode cX8_takeSingle 72 = .ok (.invokevirtual 183, 3) := by decide +kernel
theorem dX8_takeSingle_75 : decode cX8_takeSingle 75 = .ok (.istore_n 3, 1) := by decide +kernel
theorem dX8_takeSingle_76 : decode cX8_takeSingle 76 = .ok (.aload_n 0, 1) := by decide +kernel
theorem dX8_takeSingle_77 : decode cX8_takeSingle 77 = .ok (.getfield 35, 3) := by decide +kernel
theorem dX8_takeSingle_80 : decode cX8_takeSingle 80 = .ok (.iload_n 1, 1) := by decide +kernel
theorem dX8_takeSingle_81 : decode cX8_takeSingle 81 = .ok (.aload_n 0, 1) := by decide +kernel
theorem dX8_takeSingle_82 : decode cX8_takeSingle 82 = .ok (.getfield 163, 3) := by decide +kernel
theorem dX8_takeSingle_85 : decode cX8_takeSingle 85 = .ok (.iastore, 1) := by decide +kernel
theorem dX8_takeSingle_86 : decode cX8_takeSingle 86 = .ok (.iload_n 3, 1) := by decide +kernel
theorem dX8_takeSingle_87 : decode cX8_takeSingle 87 = .ok (.ifCond .gt 9, 3) := by decide +kernel
theorem dX8_takeSingle_90 : decode cX8_takeSingle 90 = .ok (.iload_n 1, 1) := by decide +kernel
theorem dX8_takeSingle_91 : decode cX8_takeSingle 91 = .ok (.bipush 6, 2) := by decide +kernel
theorem dX8_takeSingle_93 : decode cX8_takeSingle 93 = .ok (.if_icmp .eq 5, 3) := by decide +kernel
theorem dX8_takeSingle_96 : decode cX8_takeSingle 96 = .ok (.iload_n 3, 1) := by decide +kernel
theorem dX8_takeSingle_97 : decode cX8_takeSingle 97 = .ok (.ireturn, 1) := by decide +kernel
theorem dX8_takeSingle_98 : decode cX8_takeSingle 98 = .ok (.aload_n 0, 1) := by decide +kernel
theorem dX8_takeSingle_99 : decode cX8_takeSingle 99 = .ok (.bipush 116, 2) := by decide +kernel
theorem dX8_takeSingle_101 : decode cX8_takeSingle 101 = .ok (.bipush 105, 2) := by decide +kernel
theorem dX8_takeSingle_103 : decode cX8_takeSingle 103 = .ok (.bipush 109, 2) := by decide +kernel
theorem dX8_takeSingle_105 : decode cX8_takeSingle 105 = .ok (.invokestatic 148, 3) := by decide +kernel
theorem dX8_takeSingle_108 : decode cX8_takeSingle 108 = .ok (.bipush 101, 2) := by decide +kernel
theorem dX8_takeSingle_110 : decode cX8_takeSingle 110 = .ok (.bipush 115, 2) := by decide +kernel
theorem dX8_takeSingle_112 : decode cX8_takeSingle 112 = .ok (.invokestatic 152, 3) := by decide +kernel
theorem dX8_takeSingle_115 : decode cX8_takeSingle 115 = .ok (.invokevirtual 186, 3) := by decide +kernel
theorem dX8_takeSingle_118 : decode cX8_takeSingle 118 = .ok (.istore_n 3, 1) := by decide +kernel
theorem dX8_takeSingle_119 : decode cX8_takeSingle 119 = .ok (.iload_n 3, 1) := by decide +kernel
theorem dX8_takeSingle_120 : decode cX8_takeSingle 120 = .ok (.ifCond .le 7, 3) := by decide +kernel
theorem dX8_takeSingle_123 : decode cX8_takeSingle 123 = .ok (.iload_n 3, 1) := by decide +kernel
theorem dX8_takeSingle_124 : decode cX8_takeSingle 124 = .ok (.goto 9, 3) := by decide +kernel
theorem dX8_takeSingle_127 : decode cX8_takeSingle 127 = .ok (.aload_n 0, 1) := by decide +kernel
theorem dX8_takeSingle_128 : decode cX8_takeSingle 128 = .ok (.iconst 0, 1) := by decide +kernel
theorem dX8_takeSingle_129 : decode cX8_takeSingle 129 = .ok (.iconst 3, 1) := by decide +kernel
theorem dX8_takeSingle_130 : decode cX8_takeSingle 130 = .ok (.invokevirtual 183, 3) := by decide +kernel
theorem dX8_takeSingle_133 : decode cX8_takeSingle 133 = .ok (.istore_n 3, 1) := by decide +kernel
theorem dX8_takeSingle_134 : decode cX8_takeSingle 134 = .ok (.aload_n 0, 1) := by decide +kernel
theorem dX8_takeSingle_135 : decode cX8_takeSingle 135 = .ok (.getfield 35, 3) := by decide +kernel
theorem dX8_takeSingle_138 : decode cX8_takeSingle 138 = .ok (.bipush 7, 2) := by decide +kernel
theorem dX8_takeSingle_140 : decode cX8_takeSingle 140 = .ok (.aload_n 0, 1) := by decide +kernel
theorem dX8_takeSingle_141 : decode cX8_takeSingle 141 = .ok (.getfield 163, 3) := by decide +kernel
theorem dX8_takeSingle_144 : decode cX8_takeSingle 144 = .ok (.iastore, 1) := by decide +kernel
theorem dX8_takeSingle_145 : decode cX8_takeSingle 145 = .ok (.iload_n 3, 1) := by decide +kernel
theorem dX8_takeSingle_146 : decode cX8_takeSingle 146 = .ok (.ireturn, 1) := by decide +kernel
theorem f_m_takeClause_rows : True := trivial
theorem dX8_takeClause_0 : decode cX8_takeClause 0 = .ok (.aload_n 0, 1) := by decide +kernel
theorem dX8_takeClause_1 : decode cX8_takeClause 1 = .ok (.invokevirtual 156, 3) := by decide +kernel
theorem dX8_takeClause_4 : decode cX8_takeClause 4 = .ok (.aload_n 0, 1) := by decide +kernel
theorem dX8_takeClause_5 : decode cX8_takeClause 5 = .ok (.invokevirtual 194, 3) := by decide +kernel
theorem dX8_takeClause_8 : decode cX8_takeClause 8 = .ok (.istore_n 1, 1) := by decide +kernel
theorem dX8_takeClause_9 : decode cX8_takeClause 9 = .ok (.iload_n 1, 1) := by decide +kernel
theorem dX8_takeClause_10 : decode cX8_takeClause 10 = .ok (.ifCond .lt 25, 3) := by decide +kernel
theorem dX8_takeClause_13 : decode cX8_takeClause 13 = .ok (.iload_n 1, 1) := by decide +kernel
theorem dX8_takeClause_14 : decode cX8_takeClause 14 = .ok (.bipush 9, 2) := by decide +kernel
theorem dX8_takeClause_16 : decode cX8_takeClause 16 = .ok (.if_icmp .ge 19, 3) := by decide +kernel
theorem dX8_takeClause_19 : decode cX8_takeClause 19 = .ok (.aload_n 0, 1) := by decide +kernel
theorem dX8_takeClause_20 : decode cX8_takeClause 20 = .ok (.getfield 180, 3) := by decide +kernel
theorem dX8_takeClause_23 : decode cX8_takeClause 23 = .ok (.iload_n 1, 1) := by decide +kernel
theorem dX8_takeClause_24 : decode cX8_takeClause 24 = .ok (.ishr, 1) := by decide +kernel
theorem dX8_takeClause_25 : decode cX8_takeClause 25 = .ok (.iconst 1, 1) := by decide +kernel
theorem dX8_takeClause_26 : decode cX8_takeClause 26 = .ok (.iand, 1) := by decide +kernel
theorem dX8_takeClause_27 : decode cX8_takeClause 27 = .ok (.iconst 1, 1) := by decide +kernel
theorem dX8_takeClause_28 : decode cX8_takeClause 28 = .ok (.if_icmp .ne 7, 3) := by decide +kernel
theorem dX8_takeClause_31 : decode cX8_takeClause 31 = .ok (.iconst 1, 1) := by decide +kernel
theorem dX8_takeClause_32 : decode cX8_takeClause 32 = .ok (.goto 4, 3) := by decide +kernel
theorem dX8_takeClause_35 : decode cX8_takeClause 35 = .ok (.iconst 0, 1) := by decide +kernel
theorem dX8_takeClause_36 : decode cX8_takeClause 36 = .ok (.istore_n 2, 1) := by decide +kernel
theorem dX8_takeClause_37 : decode cX8_takeClause 37 = .ok (.iload_n 1, 1) := by decide +kernel
theorem dX8_takeClause_38 : decode cX8_takeClause 38 = .ok (.ifCond .lt 7, 3) := by decide +kernel
theorem dX8_takeClause_41 : decode cX8_takeClause 41 = .ok (.iload_n 2, 1) := by decide +kernel
theorem dX8_takeClause_42 : decode cX8_takeClause 42 = .ok (.ifCond .eq 21, 3) := by decide +kernel
theorem dX8_takeClause_45 : decode cX8_takeClause 45 = .ok (.aload_n 0, 1) := by decide +kernel
theorem dX8_takeClause_46 : decode cX8_takeClause 46 = .ok (.iload_n 1, 1) := by decide +kernel
theorem dX8_takeClause_47 : decode cX8_takeClause 47 = .ok (.ifCond .ge 7, 3) := by decide +kernel
theorem dX8_takeClause_50 : decode cX8_takeClause 50 = .ok (.iconst 1, 1) := by decide +kernel
theorem dX8_takeClause_51 : decode cX8_takeClause 51 = .ok (.goto 4, 3) := by decide +kernel
theorem dX8_takeClause_54 : decode cX8_takeClause 54 = .ok (.iconst 3, 1) := by decide +kernel
theorem dX8_takeClause_55 : decode cX8_takeClause 55 = .ok (.aload_n 0, 1) := by decide +kernel
theorem dX8_takeClause_56 : decode cX8_takeClause 56 = .ok (.getfield 118, 3) := by decide +kernel
theorem dX8_takeClause_59 : decode cX8_takeClause 59 = .ok (.invokevirtual 159, 3) := by decide +kernel
theorem dX8_takeClause_62 : decode cX8_takeClause 62 = .ok (.ireturn, 1) := by decide +kernel
theorem dX8_takeClause_63 : decode cX8_takeClause 63 = .ok (.aload_n 0, 1) := by decide +kernel
theorem dX8_takeClause_64 : decode cX8_takeClause 64 = .ok (.dup, 1) := by decide +kernel
theorem dX8_takeClause_65 : decode cX8_takeClause 65 = .ok (.getfield 180, 3) := by decide +kernel
theorem dX8_takeClause_68 : decode cX8_takeClause 68 = .ok (.iconst 1, 1) := by decide +kernel
theorem dX8_takeClause_69 : decode cX8_takeClause 69 = .ok (.iload_n 1, 1) := by decide +kernel
theorem dX8_takeClause_70 : decode cX8_takeClause 70 = .ok (.ishl, 1) := by decide +kernel
theorem dX8_takeClause_71 : decode cX8_takeClause 71 = .ok (.ior, 1) := by decide +kernel
theorem dX8_takeClause_72 : decode cX8_takeClause 72 = .ok (.putfield 180, 3) := by decide +kernel
theorem dX8_takeClause_75 : decode cX8_takeClause 75 = .ok (.aload_n 0, 1) := by decide +kernel
theorem dX8_takeClause_76 : decode cX8_takeClause 76 = .ok (.aload_n 0, 1) := by decide +kernel
theorem dX8_takeClause_77 : decode cX8_takeClause 77 = .ok (.getfield 129, 3) := by decide +kernel
theorem dX8_takeClause_80 : decode cX8_takeClause 80 = .ok (.putfield 118, 3) := by decide +kernel
theorem dX8_takeClause_83 : decode cX8_takeClause 83 = .ok (.iload_n 1, 1) := by decide +kernel
theorem dX8_takeClause_84 : decode cX8_takeClause 84 = .ok (.bipush 9, 2) := by decide +kernel
theorem dX8_takeClause_86 : decode cX8_takeClause 86 = .ok (.if_icmp .ne 10, 3) := by decide +kernel
theorem dX8_takeClause_89 : decode cX8_takeClause 89 = .ok (.aload_n 0, 1) := by decide +kernel
theorem dX8_takeClause_90 : decode cX8_takeClause 90 = .ok (.invokevirtual 197, 3) := by decide +kernel
theorem dX8_takeClause_93 : decode cX8_takeClause 93 = .ok (.goto 8, 3) := by decide +kernel
theorem dX8_takeClause_96 : decode cX8_takeClause 96 = .ok (.aload_n 0, 1) := by decide +kernel
theorem dX8_takeClause_97 : decode cX8_takeClause 97 = .ok (.iload_n 1, 1) := by decide +kernel
theorem dX8_takeClause_98 : decode cX8_takeClause 98 = .ok (.invokevirtual 200, 3) := by decide +kernel
theorem dX8_takeClause_101 : decode cX8_takeClause 101 = .ok (.istore_n 3, 1) := by decide +kernel
theorem dX8_takeClause_102 : decode cX8_takeClause 102 = .ok (.iload_n 3, 1) := by decide +kernel
theorem dX8_takeClause_103 : decode cX8_takeClause 103 = .ok (.ifCond .le 5, 3) := by decide +kernel
theorem dX8_takeClause_106 : decode cX8_takeClause 106 = .ok (.iload_n 3, 1) := by decide +kernel
theorem dX8_takeClause_107 : decode cX8_takeClause 107 = .ok (.ireturn, 1) := by decide +kernel
theorem dX8_takeClause_108 : decode cX8_takeClause 108 = .ok (.aload_n 0, 1) := by decide +kernel
theorem dX8_takeClause_109 : decode cX8_takeClause 109 = .ok (.invokevirtual 121, 3) := by decide +kernel
theorem dX8_takeClause_112 : decode cX8_takeClause 112 = .ok (.bipush 59, 2) := by decide +kernel
theorem dX8_takeClause_114 : decode cX8_takeClause 114 = .ok (.if_icmp .eq 13, 3) := by decide +kernel
theorem dX8_takeClause_117 : decode cX8_takeClause 117 = .ok (.aload_n 0, 1) := by decide +kernel
theorem dX8_takeClause_118 : decode cX8_takeClause 118 = .ok (.iconst 1, 1) := by decide +kernel
theorem dX8_takeClause_119 : decode cX8_takeClause 119 = .ok (.aload_n 0, 1) := by decide +kernel
theorem dX8_takeClause_120 : decode cX8_takeClause 120 = .ok (.getfield 118, 3) := by decide +kernel
theorem dX8_takeClause_123 : decode cX8_takeClause 123 = .ok (.invokevirtual 159, 3) := by decide +kernel
theorem dX8_takeClause_126 : decode cX8_takeClause 126 = .ok (.ireturn, 1) := by decide +kernel
theorem dX8_takeClause_127 : decode cX8_takeClause 127 = .ok (.aload_n 0, 1) := by decide +kernel
theorem dX8_takeClause_128 : decode cX8_takeClause 128 = .ok (.dup, 1) := by decide +kernel
theorem dX8_takeClause_129 : decode cX8_takeClause 129 = .ok (.getfield 118, 3) := by decide +kernel
theorem dX8_takeClause_132 : decode cX8_takeClause 132 = .ok (.iconst 1, 1) := by decide +kernel
theorem dX8_takeClause_133 : decode cX8_takeClause 133 = .ok (.iadd, 1) := by decide +kernel
theorem dX8_takeClause_134 : decode cX8_takeClause 134 = .ok (.putfield 118, 3) := by decide +kernel
theorem dX8_takeClause_137 : decode cX8_takeClause 137 = .ok (.iconst 0, 1) := by decide +kernel
theorem dX8_takeClause_138 : decode cX8_takeClause 138 = .ok (.ireturn, 1) := by decide +kernel

theorem m_glue7 : True := trivial
theorem shl1 : ∀ k, k < 31 → (1 : Int32) <<< (nI k &&& 31) = nI (2 ^ k) := by decide
theorem pw8 {k : Nat} (h : k ≤ 3) : 1 ≤ 2 ^ k ∧ 2 ^ k ≤ 8 := by
  rcases (show k = 0 ∨ k = 1 ∨ k = 2 ∨ k = 3 by omega) with rfl | rfl | rfl | rfl <;> decide
theorem pw4 {k : Nat} (h : k ≤ 2) : 1 ≤ 2 ^ k ∧ 2 ^ k ≤ 4 := by
  rcases (show k = 0 ∨ k = 1 ∨ k = 2 by omega) with rfl | rfl | rfl <;> decide
theorem pw24 {k : Nat} (h : k ≤ 24) : 1 ≤ 2 ^ k ∧ 2 ^ k ≤ 16777216 := by
  refine ⟨Nat.one_le_two_pow, ?_⟩
  exact Nat.pow_le_pow_right (by omega) h
theorem or8 : ∀ a, a < 8 → ∀ b, b < 8 → ∃ z : Nat, z < 8 ∧ nI a ||| nI b = nI z := by
  intro a ha b hb
  have h : ∀ a, a < 8 → ∀ b, b < 8 → nI a ||| nI b = nI (a ||| b) ∧ a ||| b < 8 := by decide
  exact ⟨a ||| b, (h a ha b hb).2, (h a ha b hb).1⟩

theorem f_m_on_rows : True := trivial
theorem dX8_on_0 : decode cX8_on 0 = .ok (.aload_n 0, 1) := by decide +kernel
theorem dX8_on_1 : decode cX8_on 1 = .ok (.iload_n 1, 1) := by decide +kernel
theorem dX8_on_2 : decode cX8_on 2 = .ok (.iconst 5, 1) := by decide +kernel
theorem dX8_on_3 : decode cX8_on 3 = .ok (.invokevirtual 212, 3) := by decide +kernel
theorem dX8_on_6 : decode cX8_on 6 = .ok (.istore 5, 2) := by decide +kernel
theorem dX8_on_8 : decode cX8_on 8 = .ok (.iload_n 3, 1) := by decide +kernel
theorem dX8_on_9 : decode cX8_on 9 = .ok (.iconst 1, 1) := by decide +kernel
theorem dX8_on_10 : decode cX8_on 10 = .ok (.iadd, 1) := by decide +kernel
theorem dX8_on_11 : decode cX8_on 11 = .ok (.iload 5, 2) := by decide +kernel
theorem dX8_on_13 : decode cX8_on 13 = .ok (.iadd, 1) := by decide +kernel
theorem dX8_on_14 : decode cX8_on 14 = .ok (.istore 6, 2) := by decide +kernel
theorem dX8_on_16 : decode cX8_on 16 = .ok (.iload 4, 2) := by decide +kernel
theorem dX8_on_18 : decode cX8_on 18 = .ok (.iconst 1, 1) := by decide +kernel
theorem dX8_on_19 : decode cX8_on 19 = .ok (.ishr, 1) := by decide +kernel
theorem dX8_on_20 : decode cX8_on 20 = .ok (.istore 7, 2) := by decide +kernel
theorem dX8_on_22 : decode cX8_on 22 = .ok (.iload 6, 2) := by decide +kernel
theorem dX8_on_24 : decode cX8_on 24 = .ok (.aload_n 0, 1) := by decide +kernel
theorem dX8_on_25 : decode cX8_on 25 = .ok (.getfield 7, 3) := by decide +kernel
theorem dX8_on_28 : decode cX8_on 28 = .ok (.iload_n 1, 1) := by decide +kernel
theorem dX8_on_29 : decode cX8_on 29 = .ok (.iaload, 1) := by decide +kernel
theorem dX8_on_30 : decode cX8_on 30 = .ok (.if_icmp .lt 18, 3) := by decide +kernel
theorem dX8_on_33 : decode cX8_on 33 = .ok (.aload_n 0, 1) := by decide +kernel
theorem dX8_on_34 : decode cX8_on 34 = .ok (.getfield 41, 3) := by decide +kernel
theorem dX8_on_37 : decode cX8_on 37 = .ok (.iload_n 2, 1) := by decide +kernel
theorem dX8_on_38 : decode cX8_on 38 = .ok (.iload_n 3, 1) := by decide +kernel
theorem dX8_on_39 : decode cX8_on 39 = .ok (.iconst 1, 1) := by decide +kernel
theorem dX8_on_40 : decode cX8_on 40 = .ok (.iadd, 1) := by decide +kernel
theorem dX8_on_41 : decode cX8_on 41 = .ok (.iload 7, 2) := by decide +kernel
theorem dX8_on_43 : decode cX8_on 43 = .ok (.invokestatic 242, 3) := by decide +kernel
theorem dX8_on_46 : decode cX8_on 46 = .ok (.iaload, 1) := by decide +kernel
theorem dX8_on_47 : decode cX8_on 47 = .ok (.ireturn, 1) := by decide +kernel
theorem dX8_on_48 : decode cX8_on 48 = .ok (.aload_n 0, 1) := by decide +kernel
theorem dX8_on_49 : decode cX8_on 49 = .ok (.iload_n 1, 1) := by decide +kernel
theorem dX8_on_50 : decode cX8_on 50 = .ok (.iload 6, 2) := by decide +kernel
theorem dX8_on_52 : decode cX8_on 52 = .ok (.iload 4, 2) := by decide +kernel
theorem dX8_on_54 : decode cX8_on 54 = .ok (.iload 5, 2) := by decide +kernel
theorem dX8_on_56 : decode cX8_on 56 = .ok (.ishr, 1) := by decide +kernel
theorem dX8_on_57 : decode cX8_on 57 = .ok (.iconst 1, 1) := by decide +kernel
theorem dX8_on_58 : decode cX8_on 58 = .ok (.iand, 1) := by decide +kernel
theorem dX8_on_59 : decode cX8_on 59 = .ok (.iconst 1, 1) := by decide +kernel
theorem dX8_on_60 : decode cX8_on 60 = .ok (.if_icmp .ne 7, 3) := by decide +kernel
theorem dX8_on_63 : decode cX8_on 63 = .ok (.iconst 1, 1) := by decide +kernel
theorem dX8_on_64 : decode cX8_on 64 = .ok (.goto 4, 3) := by decide +kernel
theorem dX8_on_67 : decode cX8_on 67 = .ok (.iconst 0, 1) := by decide +kernel
theorem dX8_on_68 : decode cX8_on 68 = .ok (.invokevirtual 219, 3) := by decide +kernel
theorem dX8_on_71 : decode cX8_on 71 = .ok (.istore 8, 2) := by decide +kernel
theorem dX8_on_73 : decode cX8_on 73 = .ok (.iload 8, 2) := by decide +kernel
theorem dX8_on_75 : decode cX8_on 75 = .ok (.aload_n 0, 1) := by decide +kernel
theorem dX8_on_76 : decode cX8_on 76 = .ok (.getfield 41, 3) := by decide +kernel
theorem dX8_on_79 : decode cX8_on 79 = .ok (.iload_n 2, 1) := by decide +kernel
theorem dX8_on_80 : decode cX8_on 80 = .ok (.iload_n 3, 1) := by decide +kernel
theorem dX8_on_81 : decode cX8_on 81 = .ok (.iconst 1, 1) := by decide +kernel
theorem dX8_on_82 : decode cX8_on 82 = .ok (.iadd, 1) := by decide +kernel
theorem dX8_on_83 : decode cX8_on 83 = .ok (.iload 7, 2) := by decide +kernel
theorem dX8_on_85 : decode cX8_on 85 = .ok (.iconst 1, 1) := by decide +kernel
theorem dX8_on_86 : decode cX8_on 86 = .ok (.iload 5, 2) := by decide +kernel
theorem dX8_on_88 : decode cX8_on 88 = .ok (.ishl, 1) := by decide +kernel
theorem dX8_on_89 : decode cX8_on 89 = .ok (.ior, 1) := by decide +kernel
theorem dX8_on_90 : decode cX8_on 90 = .ok (.invokestatic 242, 3) := by decide +kernel
theorem dX8_on_93 : decode cX8_on 93 = .ok (.iaload, 1) := by decide +kernel
theorem dX8_on_94 : decode cX8_on 94 = .ok (.aload_n 0, 1) := by decide +kernel
theorem dX8_on_95 : decode cX8_on 95 = .ok (.getfield 41, 3) := by decide +kernel
theorem dX8_on_98 : decode cX8_on 98 = .ok (.iload_n 2, 1) := by decide +kernel
theorem dX8_on_99 : decode cX8_on 99 = .ok (.iload_n 3, 1) := by decide +kernel
theorem dX8_on_100 : decode cX8_on 100 = .ok (.iconst 1, 1) := by decide +kernel
theorem dX8_on_101 : decode cX8_on 101 = .ok (.iadd, 1) := by decide +kernel
theorem dX8_on_102 : decode cX8_on 102 = .ok (.iload 7, 2) := by decide +kernel
theorem dX8_on_104 : decode cX8_on 104 = .ok (.invokestatic 242, 3) := by decide +kernel
theorem dX8_on_107 : decode cX8_on 107 = .ok (.iaload, 1) := by decide +kernel
theorem dX8_on_108 : decode cX8_on 108 = .ok (.invokestatic 245, 3) := by decide +kernel
theorem dX8_on_111 : decode cX8_on 111 = .ok (.ireturn, 1) := by decide +kernel
theorem f_m_isSight_rows : True := trivial
theorem dX8_isSight_0 : decode cX8_isSight 0 = .ok (.iload_n 3, 1) := by decide +kernel
theorem dX8_isSight_1 : decode cX8_isSight 1 = .ok (.i2l, 1) := by decide +kernel
theorem dX8_isSight_2 : decode cX8_isSight 2 = .ok (.lconst 0, 1) := by decide +kernel
theorem dX8_isSight_3 : decode cX8_isSight 3 = .ok (.iconst 1, 1) := by decide +kernel
theorem dX8_isSight_4 : decode cX8_isSight 4 = .ok (.aload_n 0, 1) := by decide +kernel
theorem dX8_isSight_5 : decode cX8_isSight 5 = .ok (.iload_n 1, 1) := by decide +kernel
theorem dX8_isSight_6 : decode cX8_isSight 6 = .ok (.iload_n 2, 1) := by decide +kernel
theorem dX8_isSight_7 : decode cX8_isSight 7 = .ok (.invokevirtual 251, 3) := by decide +kernel
theorem dX8_isSight_10 : decode cX8_isSight 10 = .ok (.ishl, 1) := by decide +kernel
theorem dX8_isSight_11 : decode cX8_isSight 11 = .ok (.iconst 1, 1) := by decide +kernel
theorem dX8_isSight_12 : decode cX8_isSight 12 = .ok (.isub, 1) := by decide +kernel
theorem dX8_isSight_13 : decode cX8_isSight 13 = .ok (.i2l, 1) := by decide +kernel
theorem dX8_isSight_14 : decode cX8_isSight 14 = .ok (.invokestatic 107, 3) := by decide +kernel
theorem dX8_isSight_17 : decode cX8_isSight 17 = .ok (.ireturn, 1) := by decide +kernel
theorem f_m_isTaking_rows : True := trivial
theorem dX8_isTaking_0 : decode cX8_isTaking 0 = .ok (.iload 4, 2) := by decide +kernel
theorem dX8_isTaking_2 : decode cX8_isTaking 2 = .ok (.iconst 1, 1) := by decide +kernel
theorem dX8_isTaking_3 : decode cX8_isTaking 3 = .ok (.iand, 1) := by decide +kernel
theorem dX8_isTaking_4 : decode cX8_isTaking 4 = .ok (.iconst 1, 1) := by decide +kernel
theorem dX8_isTaking_5 : decode cX8_isTaking 5 = .ok (.if_icmp .ne 29, 3) := by decide +kernel
theorem dX8_isTaking_8 : decode cX8_isTaking 8 = .ok (.aload_n 0, 1) := by decide +kernel
theorem dX8_isTaking_9 : decode cX8_isTaking 9 = .ok (.iload_n 1, 1) := by decide +kernel
theorem dX8_isTaking_10 : decode cX8_isTaking 10 = .ok (.iload_n 2, 1) := by decide +kernel
theorem dX8_isTaking_11 : decode cX8_isTaking 11 = .ok (.iload_n 3, 1) := by decide +kernel
theorem dX8_isTaking_12 : decode cX8_isTaking 12 = .ok (.invokevirtual 237, 3) := by decide +kernel
theorem dX8_isTaking_15 : decode cX8_isTaking 15 = .ok (.aload_n 0, 1) := by decide +kernel
theorem dX8_isTaking_16 : decode cX8_isTaking 16 = .ok (.getfield 38, 3) := by decide +kernel
theorem dX8_isTaking_19 : decode cX8_isTaking 19 = .ok (.iload_n 2, 1) := by decide +kernel
theorem dX8_isTaking_20 : decode cX8_isTaking 20 = .ok (.iload_n 3, 1) := by decide +kernel
theorem dX8_isTaking_21 : decode cX8_isTaking 21 = .ok (.iload 4, 2) := by decide +kernel
theorem dX8_isTaking_23 : decode cX8_isTaking 23 = .ok (.invokestatic 242, 3) := by decide +kernel
theorem dX8_isTaking_26 : decode cX8_isTaking 26 = .ok (.iaload, 1) := by decide +kernel
theorem dX8_isTaking_27 : decode cX8_isTaking 27 = .ok (.if_icmp .gt 7, 3) := by decide +kernel
theorem dX8_isTaking_30 : decode cX8_isTaking 30 = .ok (.iconst 1, 1) := by decide +kernel
theorem dX8_isTaking_31 : decode cX8_isTaking 31 = .ok (.goto 4, 3) := by decide +kernel
theorem dX8_isTaking_34 : decode cX8_isTaking 34 = .ok (.iconst 0, 1) := by decide +kernel
theorem dX8_isTaking_35 : decode cX8_isTaking 35 = .ok (.ireturn, 1) := by decide +kernel
theorem f_m_startOf_rows : True := trivial
theorem dX8_startOf_0 : decode cX8_startOf 0 = .ok (.aload_n 0, 1) := by decide +kernel
theorem dX8_startOf_1 : decode cX8_startOf 1 = .ok (.iload_n 1, 1) := by decide +kernel
theorem dX8_startOf_2 : decode cX8_startOf 2 = .ok (.iconst 0, 1) := by decide +kernel
theorem dX8_startOf_3 : decode cX8_startOf 3 = .ok (.invokevirtual 251, 3) := by decide +kernel
theorem dX8_startOf_6 : decode cX8_startOf 6 = .ok (.istore_n 3, 1) := by decide +kernel
theorem dX8_startOf_7 : decode cX8_startOf 7 = .ok (.iconst 0, 1) := by decide +kernel
theorem dX8_startOf_8 : decode cX8_startOf 8 = .ok (.istore 4, 2) := by decide +kernel
theorem dX8_startOf_10 : decode cX8_startOf 10 = .ok (.iload 4, 2) := by decide +kernel
theorem dX8_startOf_12 : decode cX8_startOf 12 = .ok (.iconst 1, 1) := by decide +kernel
theorem dX8_startOf_13 : decode cX8_startOf 13 = .ok (.iload_n 3, 1) := by decide +kernel
theorem dX8_startOf_14 : decode cX8_startOf 14 = .ok (.ishl, 1) := by decide +kernel
theorem dX8_startOf_15 : decode cX8_startOf 15 = .ok (.if_icmp .ge 28, 3) := by decide +kernel
theorem dX8_startOf_18 : decode cX8_startOf 18 = .ok (.aload_n 0, 1) := by decide +kernel
theorem dX8_startOf_19 : decode cX8_startOf 19 = .ok (.getfield 54, 3) := by decide +kernel
theorem dX8_startOf_22 : decode cX8_startOf 22 = .ok (.iload 4, 2) := by decide +kernel
theorem dX8_startOf_24 : decode cX8_startOf 24 = .ok (.aload_n 0, 1) := by decide +kernel
theorem dX8_startOf_25 : decode cX8_startOf 25 = .ok (.getfield 41, 3) := by decide +kernel
theorem dX8_startOf_28 : decode cX8_startOf 28 = .ok (.iload_n 2, 1) := by decide +kernel
theorem dX8_startOf_29 : decode cX8_startOf 29 = .ok (.iconst 0, 1) := by decide +kernel
theorem dX8_startOf_30 : decode cX8_startOf 30 = .ok (.iload 4, 2) := by decide +kernel
theorem dX8_startOf_32 : decode cX8_startOf 32 = .ok (.invokestatic 242, 3) := by decide +kernel
theorem dX8_startOf_35 : decode cX8_startOf 35 = .ok (.iaload, 1) := by decide +kernel
theorem dX8_startOf_36 : decode cX8_startOf 36 = .ok (.iastore, 1) := by decide +kernel
theorem dX8_startOf_37 : decode cX8_startOf 37 = .ok (.iinc 4 1, 3) := by decide +kernel
theorem dX8_startOf_40 : decode cX8_startOf 40 = .ok (.goto (-30), 3) := by decide +kernel
theorem dX8_startOf_43 : decode cX8_startOf 43 = .ok (.iload_n 3, 1) := by decide +kernel
theorem dX8_startOf_44 : decode cX8_startOf 44 = .ok (.iconst 1, 1) := by decide +kernel
theorem dX8_startOf_45 : decode cX8_startOf 45 = .ok (.isub, 1) := by decide +kernel
theorem dX8_startOf_46 : decode cX8_startOf 46 = .ok (.istore 4, 2) := by decide +kernel
theorem dX8_startOf_48 : decode cX8_startOf 48 = .ok (.iload 4, 2) := by decide +kernel
theorem dX8_startOf_50 : decode cX8_startOf 50 = .ok (.ifCond .lt 90, 3) := by decide +kernel
theorem dX8_startOf_53 : decode cX8_startOf 53 = .ok (.iconst 0, 1) := by decide +kernel
theorem dX8_startOf_54 : decode cX8_startOf 54 = .ok (.istore 5, 2) := by decide +kernel
theorem dX8_startOf_56 : decode cX8_startOf 56 = .ok (.iload 5, 2) := by decide +kernel
theorem dX8_startOf_58 : decode cX8_startOf 58 = .ok (.iconst 1, 1) := by decide +kernel
theorem dX8_startOf_59 : decode cX8_startOf 59 = .ok (.iload 4, 2) := by decide +kernel
theorem dX8_startOf_61 : decode cX8_startOf 61 = .ok (.ishl, 1) := by decide +kernel
theorem dX8_startOf_62 : decode cX8_startOf 62 = .ok (.if_icmp .ge 72, 3) := by decide +kernel
theorem dX8_startOf_65 : decode cX8_startOf 65 = .ok (.iload 4, 2) := by decide +kernel
theorem dX8_startOf_67 : decode cX8_startOf 67 = .ok (.ifCond .le 20, 3) := by decide +kernel
theorem dX8_startOf_70 : decode cX8_startOf 70 = .ok (.iload 5, 2) := by decide +kernel
theorem dX8_startOf_72 : decode cX8_startOf 72 = .ok (.iload 4, 2) := by decide +kernel
theorem dX8_startOf_74 : decode cX8_startOf 74 = .ok (.iconst 1, 1) := by decide +kernel
theorem dX8_startOf_75 : decode cX8_startOf 75 = .ok (.isub, 1) := by decide +kernel
theorem dX8_startOf_76 : decode cX8_startOf 76 = .ok (.ishr, 1) := by decide +kernel
theorem dX8_startOf_77 : decode cX8_startOf 77 = .ok (.iconst 1, 1) := by decide +kernel
theorem dX8_startOf_78 : decode cX8_startOf 78 = .ok (.iand, 1) := by decide +kernel
theorem dX8_startOf_79 : decode cX8_startOf 79 = .ok (.iconst 1, 1) := by decide +kernel
theorem dX8_startOf_80 : decode cX8_startOf 80 = .ok (.if_icmp .ne 7, 3) := by decide +kernel
theorem dX8_startOf_83 : decode cX8_startOf 83 = .ok (.iconst 1, 1) := by decide +kernel
theorem dX8_startOf_84 : decode cX8_startOf 84 = .ok (.goto 4, 3) := by decide +kernel
theorem dX8_startOf_87 : decode cX8_startOf 87 = .ok (.iconst 0, 1) := by decide +kernel
theorem dX8_startOf_88 : decode cX8_startOf 88 = .ok (.istore 6, 2) := by decide +kernel
theorem dX8_startOf_90 : decode cX8_startOf 90 = .ok (.aload_n 0, 1) := by decide +kernel
theorem dX8_startOf_91 : decode cX8_startOf 91 = .ok (.getfield 54, 3) := by decide +kernel
theorem dX8_startOf_94 : decode cX8_startOf 94 = .ok (.iload 5, 2) := by decide +kernel
theorem dX8_startOf_96 : decode cX8_startOf 96 = .ok (.aload_n 0, 1) := by decide +kernel
theorem dX8_startOf_97 : decode cX8_startOf 97 = .ok (.iload_n 1, 1) := by decide +kernel
theorem dX8_startOf_98 : decode cX8_startOf 98 = .ok (.iload 4, 2) := by decide +kernel
theorem dX8_startOf_100 : decode cX8_startOf 100 = .ok (.iload 6, 2) := by decide +kernel
theorem dX8_startOf_102 : decode cX8_startOf 102 = .ok (.invokevirtual 219, 3) := by decide +kernel
theorem dX8_startOf_105 : decode cX8_startOf 105 = .ok (.aload_n 0, 1) := by decide +kernel
theorem dX8_startOf_106 : decode cX8_startOf 106 = .ok (.getfield 54, 3) := by decide +kernel
theorem dX8_startOf_109 : decode cX8_startOf 109 = .ok (.iload 5, 2) := by decide +kernel
theorem dX8_startOf_111 : decode cX8_startOf 111 = .ok (.iconst 1, 1) := by decide +kernel
theorem dX8_startOf_112 : decode cX8_startOf 112 = .ok (.iload 4, 2) := by decide +kernel
theorem dX8_startOf_114 : decode cX8_startOf 114 = .ok (.ishl, 1) := by decide +kernel
theorem dX8_startOf_115 : decode cX8_startOf 115 = .ok (.ior, 1) := by decide +kernel
theorem dX8_startOf_116 : decode cX8_startOf 116 = .ok (.iaload, 1) := by decide +kernel
theorem dX8_startOf_117 : decode cX8_startOf 117 = .ok (.aload_n 0, 1) := by decide +kernel
theorem dX8_startOf_118 : decode cX8_startOf 118 = .ok (.getfield 54, 3) := by decide +kernel
theorem dX8_startOf_121 : decode cX8_startOf 121 = .ok (.iload 5, 2) := by decide +kernel
theorem dX8_startOf_123 : decode cX8_startOf 123 = .ok (.iaload, 1) := by decide +kernel
theorem dX8_startOf_124 : decode cX8_startOf 124 = .ok (.invokestatic 245, 3) := by decide +kernel
theorem dX8_startOf_127 : decode cX8_startOf 127 = .ok (.iastore, 1) := by decide +kernel
theorem dX8_startOf_128 : decode cX8_startOf 128 = .ok (.iinc 5 1, 3) := by decide +kernel
theorem dX8_startOf_131 : decode cX8_startOf 131 = .ok (.goto (-75), 3) := by decide +kernel
theorem dX8_startOf_134 : decode cX8_startOf 134 = .ok (.iinc 4 (-1), 3) := by decide +kernel
theorem dX8_startOf_137 : decode cX8_startOf 137 = .ok (.goto (-89), 3) := by decide +kernel
theorem dX8_startOf_140 : decode cX8_startOf 140 = .ok (.aload_n 0, 1) := by decide +kernel
theorem dX8_startOf_141 : decode cX8_startOf 141 = .ok (.getfield 54, 3) := by decide +kernel
theorem dX8_startOf_144 : decode cX8_startOf 144 = .ok (.iconst 0, 1) := by decide +kernel
theorem dX8_startOf_145 : decode cX8_startOf 145 = .ok (.iaload, 1) := by decide +kernel
theorem dX8_startOf_146 : decode cX8_startOf 146 = .ok (.ireturn, 1) := by decide +kernel
theorem f_m_findRound_rows : True := trivial
theorem dX8_findRound_0 : decode cX8_findRound 0 = .ok (.aload_n 0, 1) := by decide +kernel
theorem dX8_findRound_1 : decode cX8_findRound 1 = .ok (.getfield 7, 3) := by decide +kernel
theorem dX8_findRound_4 : decode cX8_findRound 4 = .ok (.iload_n 1, 1) := by decide +kernel
theorem dX8_findRound_5 : decode cX8_findRound 5 = .ok (.iaload, 1) := by decide +kernel
theorem dX8_findRound_6 : decode cX8_findRound 6 = .ok (.istore_n 3, 1) := by decide +kernel
theorem dX8_findRound_7 : decode cX8_findRound 7 = .ok (.aload_n 0, 1) := by decide +kernel
theorem dX8_findRound_8 : decode cX8_findRound 8 = .ok (.iload_n 1, 1) := by decide +kernel
theorem dX8_findRound_9 : decode cX8_findRound 9 = .ok (.iload_n 2, 1) := by decide +kernel
theorem dX8_findRound_10 : decode cX8_findRound 10 = .ok (.invokevirtual 248, 3) := by decide +kernel
theorem dX8_findRound_13 : decode cX8_findRound 13 = .ok (.istore 4, 2) := by decide +kernel
theorem dX8_findRound_15 : decode cX8_findRound 15 = .ok (.iload_n 2, 1) := by decide +kernel
theorem dX8_findRound_16 : decode cX8_findRound 16 = .ok (.aload_n 0, 1) := by decide +kernel
theorem dX8_findRound_17 : decode cX8_findRound 17 = .ok (.iload_n 1, 1) := by decide +kernel
theorem dX8_findRound_18 : decode cX8_findRound 18 = .ok (.bipush 7, 2) := by decide +kernel
theorem dX8_findRound_20 : decode cX8_findRound 20 = .ok (.invokevirtual 212, 3) := by decide +kernel
theorem dX8_findRound_23 : decode cX8_findRound 23 = .ok (.if_icmp .ge 33, 3) := by decide +kernel
theorem dX8_findRound_26 : decode cX8_findRound 26 = .ok (.aload_n 0, 1) := by decide +kernel
theorem dX8_findRound_27 : decode cX8_findRound 27 = .ok (.iload_n 1, 1) := by decide +kernel
theorem dX8_findRound_28 : decode cX8_findRound 28 = .ok (.iconst 2, 1) := by decide +kernel
theorem dX8_findRound_29 : decode cX8_findRound 29 = .ok (.invokevirtual 212, 3) := by decide +kernel
theorem dX8_findRound_32 : decode cX8_findRound 32 = .ok (.aload_n 0, 1) := by decide +kernel
theorem dX8_findRound_33 : decode cX8_findRound 33 = .ok (.iload_n 1, 1) := by decide +kernel
theorem dX8_findRound_34 : decode cX8_findRound 34 = .ok (.bipush 6, 2) := by decide +kernel
theorem dX8_findRound_36 : decode cX8_findRound 36 = .ok (.invokevirtual 212, 3) := by decide +kernel
theorem dX8_findRound_39 : decode cX8_findRound 39 = .ok (.imul, 1) := by decide +kernel
theorem dX8_findRound_40 : decode cX8_findRound 40 = .ok (.sipush 1000, 3) := by decide +kernel
theorem dX8_findRound_43 : decode cX8_findRound 43 = .ok (.imul, 1) := by decide +kernel
theorem dX8_findRound_44 : decode cX8_findRound 44 = .ok (.aload_n 0, 1) := by decide +kernel
theorem dX8_findRound_45 : decode cX8_findRound 45 = .ok (.getfield 44, 3) := by decide +kernel
theorem dX8_findRound_48 : decode cX8_findRound 48 = .ok (.iload_n 2, 1) := by decide +kernel
theorem dX8_findRound_49 : decode cX8_findRound 49 = .ok (.iconst 1, 1) := by decide +kernel
theorem dX8_findRound_50 : decode cX8_findRound 50 = .ok (.iadd, 1) := by decide +kernel
theorem dX8_findRound_51 : decode cX8_findRound 51 = .ok (.iaload, 1) := by decide +kernel
theorem dX8_findRound_52 : decode cX8_findRound 52 = .ok (.iadd, 1) := by decide +kernel
theorem dX8_findRound_53 : decode cX8_findRound 53 = .ok (.goto 5, 3) := by decide +kernel
theorem dX8_findRound_56 : decode cX8_findRound 56 = .ok (.iload 4, 2) := by decide +kernel
theorem dX8_findRound_58 : decode cX8_findRound 58 = .ok (.istore 5, 2) := by decide +kernel
theorem dX8_findRound_60 : decode cX8_findRound 60 = .ok (.aload_n 0, 1) := by decide +kernel
theorem dX8_findRound_61 : decode cX8_findRound 61 = .ok (.getfield 50, 3) := by decide +kernel
theorem dX8_findRound_64 : decode cX8_findRound 64 = .ok (.iload_n 2, 1) := by decide +kernel
theorem dX8_findRound_65 : decode cX8_findRound 65 = .ok (.iload 5, 2) := by decide +kernel
theorem dX8_findRound_67 : decode cX8_findRound 67 = .ok (.iload 4, 2) := by decide +kernel
theorem dX8_findRound_69 : decode cX8_findRound 69 = .ok (.if_icmp .ge 7, 3) := by decide +kernel
theorem dX8_findRound_72 : decode cX8_findRound 72 = .ok (.iconst 1, 1) := by decide +kernel
theorem dX8_findRound_73 : decode cX8_findRound 73 = .ok (.goto 4, 3) := by decide +kernel
theorem dX8_findRound_76 : decode cX8_findRound 76 = .ok (.iconst 0, 1) := by decide +kernel
theorem dX8_findRound_77 : decode cX8_findRound 77 = .ok (.bastore, 1) := by decide +kernel
theorem dX8_findRound_78 : decode cX8_findRound 78 = .ok (.aload_n 0, 1) := by decide +kernel
theorem dX8_findRound_79 : decode cX8_findRound 79 = .ok (.getfield 47, 3) := by decide +kernel
theorem dX8_findRound_82 : decode cX8_findRound 82 = .ok (.iload_n 2, 1) := by decide +kernel
theorem dX8_findRound_83 : decode cX8_findRound 83 = .ok (.iload 5, 2) := by decide +kernel
theorem dX8_findRound_85 : decode cX8_findRound 85 = .ok (.iload 4, 2) := by decide +kernel
theorem dX8_findRound_87 : decode cX8_findRound 87 = .ok (.if_icmp .ge 8, 3) := by decide +kernel
theorem dX8_findRound_90 : decode cX8_findRound 90 = .ok (.iload 5, 2) := by decide +kernel
theorem dX8_findRound_92 : decode cX8_findRound 92 = .ok (.goto 5, 3) := by decide +kernel
theorem dX8_findRound_95 : decode cX8_findRound 95 = .ok (.iload 4, 2) := by decide +kernel
theorem dX8_findRound_97 : decode cX8_findRound 97 = .ok (.iastore, 1) := by decide +kernel
theorem dX8_findRound_98 : decode cX8_findRound 98 = .ok (.iload_n 3, 1) := by decide +kernel
theorem dX8_findRound_99 : decode cX8_findRound 99 = .ok (.iconst 1, 1) := by decide +kernel
theorem dX8_findRound_100 : decode cX8_findRound 100 = .ok (.isub, 1) := by decide +kernel
theorem dX8_findRound_101 : decode cX8_findRound 101 = .ok (.istore 6, 2) := by decide +kernel
theorem dX8_findRound_103 : decode cX8_findRound 103 = .ok (.iload 6, 2) := by decide +kernel
theorem dX8_findRound_105 : decode cX8_findRound 105 = .ok (.ifCond .lt 132, 3) := by decide +kernel
theorem dX8_findRound_108 : decode cX8_findRound 108 = .ok (.iconst 0, 1) := by decide +kernel
theorem dX8_findRound_109 : decode cX8_findRound 109 = .ok (.istore 7, 2) := by decide +kernel
theorem dX8_findRound_111 : decode cX8_findRound 111 = .ok (.iload 7, 2) := by decide +kernel
theorem dX8_findRound_113 : decode cX8_findRound 113 = .ok (.iconst 1, 1) := by decide +kernel
theorem dX8_findRound_114 : decode cX8_findRound 114 = .ok (.aload_n 0, 1) := by decide +kernel
theorem dX8_findRound_115 : decode cX8_findRound 115 = .ok (.iload_n 1, 1) := by decide +kernel
theorem dX8_findRound_116 : decode cX8_findRound 116 = .ok (.iload 6, 2) := by decide +kernel
theorem dX8_findRound_118 : decode cX8_findRound 118 = .ok (.invokevirtual 251, 3) := by decide +kernel
theorem dX8_findRound_121 : decode cX8_findRound 121 = .ok (.ishl, 1) := by decide +kernel
theorem dX8_findRound_122 : decode cX8_findRound 122 = .ok (.if_icmp .ge 109, 3) := by decide +kernel
theorem dX8_findRound_125 : decode cX8_findRound 125 = .ok (.aload_n 0, 1) := by decide +kernel
theorem dX8_findRound_126 : decode cX8_findRound 126 = .ok (.iload_n 1, 1) := by decide +kernel
theorem dX8_findRound_127 : decode cX8_findRound 127 = .ok (.iconst 2, 1) := by decide +kernel
theorem dX8_findRound_128 : decode cX8_findRound 128 = .ok (.invokevirtual 212, 3) := by decide +kernel
theorem dX8_findRound_131 : decode cX8_findRound 131 = .ok (.sipush 1000, 3) := by decide +kernel
theorem dX8_findRound_134 : decode cX8_findRound 134 = .ok (.imul, 1) := by decide +kernel
theorem dX8_findRound_135 : decode cX8_findRound 135 = .ok (.iload 6, 2) := by decide +kernel
theorem dX8_findRound_137 : decode cX8_findRound 137 = .ok (.iload_n 3, 1) := by decide +kernel
theorem dX8_findRound_138 : decode cX8_findRound 138 = .ok (.iconst 1, 1) := by decide +kernel
theorem dX8_findRound_139 : decode cX8_findRound 139 = .ok (.isub, 1) := by decide +kernel
theorem dX8_findRound_140 : decode cX8_findRound 140 = .ok (.if_icmp .ne 12, 3) := by decide +kernel
theorem dX8_findRound_143 : decode cX8_findRound 143 = .ok (.aload_n 0, 1) := by decide +kernel
theorem dX8_findRound_144 : decode cX8_findRound 144 = .ok (.getfield 47, 3) := by decide +kernel
theorem dX8_findRound_147 : decode cX8_findRound 147 = .ok (.iload_n 2, 1) := by decide +kernel
theorem dX8_findRound_148 : decode cX8_findRound 148 = .ok (.iaload, 1) := by decide +kernel
theorem dX8_findRound_149 : decode cX8_findRound 149 = .ok (.goto 13, 3) := by decide +kernel
theorem dX8_findRound_152 : decode cX8_findRound 152 = .ok (.aload_n 0, 1) := by decide +kernel
theorem dX8_findRound_153 : decode cX8_findRound 153 = .ok (.iload_n 1, 1) := by decide +kernel
theorem dX8_findRound_154 : decode cX8_findRound 154 = .ok (.iload_n 2, 1) := by decide +kernel
theorem dX8_findRound_155 : decode cX8_findRound 155 = .ok (.iload 6, 2) := by decide +kernel
theorem dX8_findRound_157 : decode cX8_findRound 157 = .ok (.iload 7, 2) := by decide +kernel
theorem dX8_findRound_159 : decode cX8_findRound 159 = .ok (.invokevirtual 254, 3) := by decide +kernel
theorem dX8_findRound_162 : decode cX8_findRound 162 = .ok (.iadd, 1) := by decide +kernel
theorem dX8_findRound_163 : decode cX8_findRound 163 = .ok (.istore 8, 2) := by decide +kernel
theorem dX8_findRound_165 : decode cX8_findRound 165 = .ok (.aload_n 0, 1) := by decide +kernel
theorem dX8_findRound_166 : decode cX8_findRound 166 = .ok (.iload_n 1, 1) := by decide +kernel
theorem dX8_findRound_167 : decode cX8_findRound 167 = .ok (.iload_n 2, 1) := by decide +kernel
theorem dX8_findRound_168 : decode cX8_findRound 168 = .ok (.iload 6, 2) := by decide +kernel
theorem dX8_findRound_170 : decode cX8_findRound 170 = .ok (.invokevirtual 237, 3) := by decide +kernel
theorem dX8_findRound_173 : decode cX8_findRound 173 = .ok (.istore 9, 2) := by decide +kernel
theorem dX8_findRound_175 : decode cX8_findRound 175 = .ok (.aload_n 0, 1) := by decide +kernel
theorem dX8_findRound_176 : decode cX8_findRound 176 = .ok (.getfield 38, 3) := by decide +kernel
theorem dX8_findRound_179 : decode cX8_findRound 179 = .ok (.iload_n 2, 1) := by decide +kernel
theorem dX8_findRound_180 : decode cX8_findRound 180 = .ok (.iload 6, 2) := by decide +kernel
theorem dX8_findRound_182 : decode cX8_findRound 182 = .ok (.iload 7, 2) := by decide +kernel
theorem dX8_findRound_184 : decode cX8_findRound 184 = .ok (.invokestatic 242, 3) := by decide +kernel
theorem dX8_findRound_187 : decode cX8_findRound 187 = .ok (.iload 8, 2) := by decide +kernel
theorem dX8_findRound_189 : decode cX8_findRound 189 = .ok (.iastore, 1) := by decide +kernel
theorem dX8_findRound_190 : decode cX8_findRound 190 = .ok (.aload_n 0, 1) := by decide +kernel
theorem dX8_findRound_191 : decode cX8_findRound 191 = .ok (.getfield 41, 3) := by decide +kernel
theorem dX8_findRound_194 : decode cX8_findRound 194 = .ok (.iload_n 2, 1) := by decide +kernel
theorem dX8_findRound_195 : decode cX8_findRound 195 = .ok (.iload 6, 2) := by decide +kernel
theorem dX8_findRound_197 : decode cX8_findRound 197 = .ok (.iload 7, 2) := by decide +kernel
theorem dX8_findRound_199 : decode cX8_findRound 199 = .ok (.invokestatic 242, 3) := by decide +kernel
theorem dX8_findRound_202 : decode cX8_findRound 202 = .ok (.iload 7, 2) := by decide +kernel
theorem dX8_findRound_204 : decode cX8_findRound 204 = .ok (.iconst 1, 1) := by decide +kernel
theorem dX8_findRound_205 : decode cX8_findRound 205 = .ok (.iand, 1) := by decide +kernel
theorem dX8_findRound_206 : decode cX8_findRound 206 = .ok (.iconst 1, 1) := by decide +kernel
theorem dX8_findRound_207 : decode cX8_findRound 207 = .ok (.if_icmp .ne 15, 3) := by decide +kernel
theorem dX8_findRound_210 : decode cX8_findRound 210 = .ok (.iload 9, 2) := by decide +kernel
theorem dX8_findRound_212 : decode cX8_findRound 212 = .ok (.iload 8, 2) := by decide +kernel
theorem dX8_findRound_214 : decode cX8_findRound 214 = .ok (.if_icmp .gt 8, 3) := by decide +kernel
theorem dX8_findRound_217 : decode cX8_findRound 217 = .ok (.iload 9, 2) := by decide +kernel
theorem dX8_findRound_219 : decode cX8_findRound 219 = .ok (.goto 5, 3) := by decide +kernel
theorem dX8_findRound_222 : decode cX8_findRound 222 = .ok (.iload 8, 2) := by decide +kernel
theorem dX8_findRound_224 : decode cX8_findRound 224 = .ok (.iastore, 1) := by decide +kernel
theorem dX8_findRound_225 : decode cX8_findRound 225 = .ok (.iinc 7 1, 3) := by decide +kernel
theorem dX8_findRound_228 : decode cX8_findRound 228 = .ok (.goto (-117), 3) := by decide +kernel
theorem dX8_findRound_231 : decode cX8_findRound 231 = .ok (.iinc 6 (-1), 3) := by decide +kernel
theorem dX8_findRound_234 : decode cX8_findRound 234 = .ok (.goto (-131), 3) := by decide +kernel
theorem dX8_findRound_237 : decode cX8_findRound 237 = .ok (.aload_n 0, 1) := by decide +kernel
theorem dX8_findRound_238 : decode cX8_findRound 238 = .ok (.getfield 44, 3) := by decide +kernel
theorem dX8_findRound_241 : decode cX8_findRound 241 = .ok (.iload_n 2, 1) := by decide +kernel
theorem dX8_findRound_242 : decode cX8_findRound 242 = .ok (.aload_n 0, 1) := by decide +kernel
theorem dX8_findRound_243 : decode cX8_findRound 243 = .ok (.iload_n 1, 1) := by decide +kernel
theorem dX8_findRound_244 : decode cX8_findRound 244 = .ok (.iload_n 2, 1) := by decide +kernel
theorem dX8_findRound_245 : decode cX8_findRound 245 = .ok (.invokevirtual 257, 3) := by decide +kernel
theorem dX8_findRound_248 : decode cX8_findRound 248 = .ok (.iastore, 1) := by decide +kernel
theorem dX8_findRound_249 : decode cX8_findRound 249 = .ok (.return_, 1) := by decide +kernel
theorem f_m_findWay_rows : True := trivial
theorem dX8_findWay_0 : decode cX8_findWay 0 = .ok (.aload_n 0, 1) := by decide +kernel
theorem dX8_findWay_1 : decode cX8_findWay 1 = .ok (.iload_n 1, 1) := by decide +kernel
theorem dX8_findWay_2 : decode cX8_findWay 2 = .ok (.bipush 7, 2) := by decide +kernel
theorem dX8_findWay_4 : decode cX8_findWay 4 = .ok (.invokevirtual 212, 3) := by decide +kernel
theorem dX8_findWay_7 : decode cX8_findWay 7 = .ok (.istore_n 2, 1) := by decide +kernel
theorem dX8_findWay_8 : decode cX8_findWay 8 = .ok (.iload_n 2, 1) := by decide +kernel
theorem dX8_findWay_9 : decode cX8_findWay 9 = .ok (.ifCond .lt 15, 3) := by decide +kernel
theorem dX8_findWay_12 : decode cX8_findWay 12 = .ok (.aload_n 0, 1) := by decide +kernel
theorem dX8_findWay_13 : decode cX8_findWay 13 = .ok (.iload_n 1, 1) := by decide +kernel
theorem dX8_findWay_14 : decode cX8_findWay 14 = .ok (.iload_n 2, 1) := by decide +kernel
theorem dX8_findWay_15 : decode cX8_findWay 15 = .ok (.invokevirtual 260, 3) := by decide +kernel
theorem dX8_findWay_18 : decode cX8_findWay 18 = .ok (.iinc 2 (-1), 3) := by decide +kernel
theorem dX8_findWay_21 : decode cX8_findWay 21 = .ok (.goto (-13), 3) := by decide +kernel
theorem dX8_findWay_24 : decode cX8_findWay 24 = .ok (.return_, 1) := by decide +kernel

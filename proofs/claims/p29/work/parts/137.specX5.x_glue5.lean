theorem x_glue5 : True := trivial
theorem whsplit {n : Nat} (h : n ≤ 2) : n = 0 ∨ n = 1 ∨ n = 2 := by omega

theorem f_x_garageShare_rows : True := trivial
theorem dX2_garageShare_0 : decode cX2_garageShare 0 = .ok (.iload_n 2, 1) := by decide +kernel
theorem dX2_garageShare_1 : decode cX2_garageShare 1 = .ok (.lookupswitch 48 #[(0, 27), (1, 33)], 27) := by decide +kernel
theorem dX2_garageShare_28 : decode cX2_garageShare 28 = .ok (.aload_n 0, 1) := by decide +kernel
theorem dX2_garageShare_29 : decode cX2_garageShare 29 = .ok (.iload_n 1, 1) := by decide +kernel
theorem dX2_garageShare_30 : decode cX2_garageShare 30 = .ok (.invokevirtual 48, 3) := by decide +kernel
theorem dX2_garageShare_33 : decode cX2_garageShare 33 = .ok (.ireturn, 1) := by decide +kernel
theorem dX2_garageShare_34 : decode cX2_garageShare 34 = .ok (.aload_n 0, 1) := by decide +kernel
theorem dX2_garageShare_35 : decode cX2_garageShare 35 = .ok (.iload_n 1, 1) := by decide +kernel
theorem dX2_garageShare_36 : decode cX2_garageShare 36 = .ok (.invokevirtual 52, 3) := by decide +kernel
theorem dX2_garageShare_39 : decode cX2_garageShare 39 = .ok (.ifCond .eq 8, 3) := by decide +kernel
theorem dX2_garageShare_42 : decode cX2_garageShare 42 = .ok (.ldc 56, 2) := by decide +kernel
theorem dX2_garageShare_44 : decode cX2_garageShare 44 = .ok (.goto 4, 3) := by decide +kernel
theorem dX2_garageShare_47 : decode cX2_garageShare 47 = .ok (.iconst 0, 1) := by decide +kernel
theorem dX2_garageShare_48 : decode cX2_garageShare 48 = .ok (.ireturn, 1) := by decide +kernel
theorem dX2_garageShare_49 : decode cX2_garageShare 49 = .ok (.ldc 56, 2) := by decide +kernel
theorem dX2_garageShare_51 : decode cX2_garageShare 51 = .ok (.ireturn, 1) := by decide +kernel
theorem f_x_doorShare_rows : True := trivial
theorem dX2_doorShare_0 : decode cX2_doorShare 0 = .ok (.iload_n 3, 1) := by decide +kernel
theorem dX2_doorShare_1 : decode cX2_doorShare 1 = .ok (.lookupswitch 49 #[(0, 27), (1, 34)], 27) := by decide +kernel
theorem dX2_doorShare_28 : decode cX2_doorShare 28 = .ok (.aload_n 0, 1) := by decide +kernel
theorem dX2_doorShare_29 : decode cX2_doorShare 29 = .ok (.iload_n 1, 1) := by decide +kernel
theorem dX2_doorShare_30 : decode cX2_doorShare 30 = .ok (.iload_n 2, 1) := by decide +kernel
theorem dX2_doorShare_31 : decode cX2_doorShare 31 = .ok (.invokevirtual 57, 3) := by decide +kernel
theorem dX2_doorShare_34 : decode cX2_doorShare 34 = .ok (.ireturn, 1) := by decide +kernel
theorem dX2_doorShare_35 : decode cX2_doorShare 35 = .ok (.aload_n 0, 1) := by decide +kernel
theorem dX2_doorShare_36 : decode cX2_doorShare 36 = .ok (.iload_n 1, 1) := by decide +kernel
theorem dX2_doorShare_37 : decode cX2_doorShare 37 = .ok (.invokevirtual 52, 3) := by decide +kernel
theorem dX2_doorShare_40 : decode cX2_doorShare 40 = .ok (.ifCond .eq 8, 3) := by decide +kernel
theorem dX2_doorShare_43 : decode cX2_doorShare 43 = .ok (.ldc 56, 2) := by decide +kernel
theorem dX2_doorShare_45 : decode cX2_doorShare 45 = .ok (.goto 4, 3) := by decide +kernel
theorem dX2_doorShare_48 : decode cX2_doorShare 48 = .ok (.iconst 0, 1) := by decide +kernel
theorem dX2_doorShare_49 : decode cX2_doorShare 49 = .ok (.ireturn, 1) := by decide +kernel
theorem dX2_doorShare_50 : decode cX2_doorShare 50 = .ok (.iconst 0, 1) := by decide +kernel
theorem dX2_doorShare_51 : decode cX2_doorShare 51 = .ok (.ireturn, 1) := by decide +kernel
theorem f_x_meanOfRound_rows : True := trivial
theorem dX2_meanOfRound_0 : decode cX2_meanOfRound 0 = .ok (.iconst 0, 1) := by decide +kernel
theorem dX2_meanOfRound_1 : decode cX2_meanOfRound 1 = .ok (.istore 6, 2) := by decide +kernel
theorem dX2_meanOfRound_3 : decode cX2_meanOfRound 3 = .ok (.iload 6, 2) := by decide +kernel
theorem dX2_meanOfRound_5 : decode cX2_meanOfRound 5 = .ok (.aload_n 1, 1) := by decide +kernel
theorem dX2_meanOfRound_6 : decode cX2_meanOfRound 6 = .ok (.invokevirtual 61, 3) := by decide +kernel
theorem dX2_meanOfRound_9 : decode cX2_meanOfRound 9 = .ok (.if_icmp .gt 27, 3) := by decide +kernel
theorem dX2_meanOfRound_12 : decode cX2_meanOfRound 12 = .ok (.aload_n 0, 1) := by decide +kernel
theorem dX2_meanOfRound_13 : decode cX2_meanOfRound 13 = .ok (.getfield 9, 3) := by decide +kernel
theorem dX2_meanOfRound_16 : decode cX2_meanOfRound 16 = .ok (.iload 6, 2) := by decide +kernel
theorem dX2_meanOfRound_18 : decode cX2_meanOfRound 18 = .ok (.iload 5, 2) := by decide +kernel
theorem dX2_meanOfRound_20 : decode cX2_meanOfRound 20 = .ok (.iastore, 1) := by decide +kernel
theorem dX2_meanOfRound_21 : decode cX2_meanOfRound 21 = .ok (.aload_n 0, 1) := by decide +kernel
theorem dX2_meanOfRound_22 : decode cX2_meanOfRound 22 = .ok (.getfield 15, 3) := by decide +kernel
theorem dX2_meanOfRound_25 : decode cX2_meanOfRound 25 = .ok (.iload 6, 2) := by decide +kernel
theorem dX2_meanOfRound_27 : decode cX2_meanOfRound 27 = .ok (.iload 5, 2) := by decide +kernel
theorem dX2_meanOfRound_29 : decode cX2_meanOfRound 29 = .ok (.iastore, 1) := by decide +kernel
theorem dX2_meanOfRound_30 : decode cX2_meanOfRound 30 = .ok (.iinc 6 1, 3) := by decide +kernel
theorem dX2_meanOfRound_33 : decode cX2_meanOfRound 33 = .ok (.goto (-30), 3) := by decide +kernel
theorem dX2_meanOfRound_36 : decode cX2_meanOfRound 36 = .ok (.iload_n 3, 1) := by decide +kernel
theorem dX2_meanOfRound_37 : decode cX2_meanOfRound 37 = .ok (.ifCond .ne 10, 3) := by decide +kernel
theorem dX2_meanOfRound_40 : decode cX2_meanOfRound 40 = .ok (.aload_n 1, 1) := by decide +kernel
theorem dX2_meanOfRound_41 : decode cX2_meanOfRound 41 = .ok (.invokevirtual 64, 3) := by decide +kernel
theorem dX2_meanOfRound_44 : decode cX2_meanOfRound 44 = .ok (.goto 4, 3) := by decide +kernel
theorem dX2_meanOfRound_47 : decode cX2_meanOfRound 47 = .ok (.iconst 0, 1) := by decide +kernel
theorem dX2_meanOfRound_48 : decode cX2_meanOfRound 48 = .ok (.istore 6, 2) := by decide +kernel
theorem dX2_meanOfRound_50 : decode cX2_meanOfRound 50 = .ok (.aload_n 1, 1) := by decide +kernel
theorem dX2_meanOfRound_51 : decode cX2_meanOfRound 51 = .ok (.invokevirtual 61, 3) := by decide +kernel
theorem dX2_meanOfRound_54 : decode cX2_meanOfRound 54 = .ok (.iconst 1, 1) := by decide +kernel
theorem dX2_meanOfRound_55 : decode cX2_meanOfRound 55 = .ok (.isub, 1) := by decide +kernel
theorem dX2_meanOfRound_56 : decode cX2_meanOfRound 56 = .ok (.istore 7, 2) := by decide +kernel
theorem dX2_meanOfRound_58 : decode cX2_meanOfRound 58 = .ok (.iload 7, 2) := by decide +kernel
theorem dX2_meanOfRound_60 : decode cX2_meanOfRound 60 = .ok (.ifCond .lt 132, 3) := by decide +kernel
theorem dX2_meanOfRound_63 : decode cX2_meanOfRound 63 = .ok (.aload_n 1, 1) := by decide +kernel
theorem dX2_meanOfRound_64 : decode cX2_meanOfRound 64 = .ok (.iload 4, 2) := by decide +kernel
theorem dX2_meanOfRound_66 : decode cX2_meanOfRound 66 = .ok (.iload 7, 2) := by decide +kernel
theorem dX2_meanOfRound_68 : decode cX2_meanOfRound 68 = .ok (.iload_n 3, 1) := by decide +kernel
theorem dX2_meanOfRound_69 : decode cX2_meanOfRound 69 = .ok (.invokestatic 67, 3) := by decide +kernel
theorem dX2_meanOfRound_72 : decode cX2_meanOfRound 72 = .ok (.istore 8, 2) := by decide +kernel
theorem dX2_meanOfRound_74 : decode cX2_meanOfRound 74 = .ok (.iconst 0, 1) := by decide +kernel
theorem dX2_meanOfRound_75 : decode cX2_meanOfRound 75 = .ok (.istore 9, 2) := by decide +kernel
theorem dX2_meanOfRound_77 : decode cX2_meanOfRound 77 = .ok (.iload 9, 2) := by decide +kernel
theorem dX2_meanOfRound_79 : decode cX2_meanOfRound 79 = .ok (.iload 7, 2) := by decide +kernel
theorem dX2_meanOfRound_81 : decode cX2_meanOfRound 81 = .ok (.if_icmp .gt 105, 3) := by decide +kernel
theorem dX2_meanOfRound_84 : decode cX2_meanOfRound 84 = .ok (.iload 7, 2) := by decide +kernel
theorem dX2_meanOfRound_86 : decode cX2_meanOfRound 86 = .ok (.aload_n 2, 1) := by decide +kernel
theorem dX2_meanOfRound_87 : decode cX2_meanOfRound 87 = .ok (.iload 9, 2) := by decide +kernel
theorem dX2_meanOfRound_89 : decode cX2_meanOfRound 89 = .ok (.invokevirtual 71, 3) := by decide +kernel
theorem dX2_meanOfRound_92 : decode cX2_meanOfRound 92 = .ok (.if_icmp .lt 7, 3) := by decide +kernel
theorem dX2_meanOfRound_95 : decode cX2_meanOfRound 95 = .ok (.iconst 1, 1) := by decide +kernel
theorem dX2_meanOfRound_96 : decode cX2_meanOfRound 96 = .ok (.goto 4, 3) := by decide +kernel
theorem dX2_meanOfRound_99 : decode cX2_meanOfRound 99 = .ok (.iconst 0, 1) := by decide +kernel
theorem dX2_meanOfRound_100 : decode cX2_meanOfRound 100 = .ok (.istore 10, 2) := by decide +kernel
theorem dX2_meanOfRound_102 : decode cX2_meanOfRound 102 = .ok (.iload 10, 2) := by decide +kernel
theorem dX2_meanOfRound_104 : decode cX2_meanOfRound 104 = .ok (.ifCond .eq 8, 3) := by decide +kernel
theorem dX2_meanOfRound_107 : decode cX2_meanOfRound 107 = .ok (.iload 8, 2) := by decide +kernel
theorem dX2_meanOfRound_109 : decode cX2_meanOfRound 109 = .ok (.goto 15, 3) := by decide +kernel
theorem dX2_meanOfRound_112 : decode cX2_meanOfRound 112 = .ok (.iload 6, 2) := by decide +kernel
theorem dX2_meanOfRound_114 : decode cX2_meanOfRound 114 = .ok (.aload_n 0, 1) := by decide +kernel
theorem dX2_meanOfRound_115 : decode cX2_meanOfRound 115 = .ok (.getfield 9, 3) := by decide +kernel
theorem dX2_meanOfRound_118 : decode cX2_meanOfRound 118 = .ok (.iload 9, 2) := by decide +kernel
theorem dX2_meanOfRound_120 : decode cX2_meanOfRound 120 = .ok (.iconst 1, 1) := by decide +kernel
theorem dX2_meanOfRound_121 : decode cX2_meanOfRound 121 = .ok (.iadd, 1) := by decide +kernel
theorem dX2_meanOfRound_122 : decode cX2_meanOfRound 122 = .ok (.iaload, 1) := by decide +kernel
theorem dX2_meanOfRound_123 : decode cX2_meanOfRound 123 = .ok (.iadd, 1) := by decide +kernel
theorem dX2_meanOfRound_124 : decode cX2_meanOfRound 124 = .ok (.istore 11, 2) := by decide +kernel
theorem dX2_meanOfRound_126 : decode cX2_meanOfRound 126 = .ok (.iload 6, 2) := by decide +kernel
theorem dX2_meanOfRound_128 : decode cX2_meanOfRound 128 = .ok (.aload_n 0, 1) := by decide +kernel
theorem dX2_meanOfRound_129 : decode cX2_meanOfRound 129 = .ok (.getfield 15, 3) := by decide +kernel
theorem dX2_meanOfRound_132 : decode cX2_meanOfRound 132 = .ok (.iload 9, 2) := by decide +kernel
theorem dX2_meanOfRound_134 : decode cX2_meanOfRound 134 = .ok (.iaload, 1) := by decide +kernel
theorem dX2_meanOfRound_135 : decode cX2_meanOfRound 135 = .ok (.iadd, 1) := by decide +kernel
theorem dX2_meanOfRound_136 : decode cX2_meanOfRound 136 = .ok (.istore 12, 2) := by decide +kernel
theorem dX2_meanOfRound_138 : decode cX2_meanOfRound 138 = .ok (.aload_n 0, 1) := by decide +kernel
theorem dX2_meanOfRound_139 : decode cX2_meanOfRound 139 = .ok (.getfield 9, 3) := by decide +kernel
theorem dX2_meanOfRound_142 : decode cX2_meanOfRound 142 = .ok (.iload 9, 2) := by decide +kernel
theorem dX2_meanOfRound_144 : decode cX2_meanOfRound 144 = .ok (.aload_n 1, 1) := by decide +kernel
theorem dX2_meanOfRound_145 : decode cX2_meanOfRound 145 = .ok (.iload 7, 2) := by decide +kernel
theorem dX2_meanOfRound_147 : decode cX2_meanOfRound 147 = .ok (.iconst 1, 1) := by decide +kernel
theorem dX2_meanOfRound_148 : decode cX2_meanOfRound 148 = .ok (.invokevirtual 74, 3) := by decide +kernel
theorem dX2_meanOfRound_151 : decode cX2_meanOfRound 151 = .ok (.iload 11, 2) := by decide +kernel
theorem dX2_meanOfRound_153 : decode cX2_meanOfRound 153 = .ok (.iload 12, 2) := by decide +kernel
theorem dX2_meanOfRound_155 : decode cX2_meanOfRound 155 = .ok (.invokestatic 78, 3) := by decide +kernel
theorem dX2_meanOfRound_158 : decode cX2_meanOfRound 158 = .ok (.iastore, 1) := by decide +kernel
theorem dX2_meanOfRound_159 : decode cX2_meanOfRound 159 = .ok (.aload_n 0, 1) := by decide +kernel
theorem dX2_meanOfRound_160 : decode cX2_meanOfRound 160 = .ok (.getfield 15, 3) := by decide +kernel
theorem dX2_meanOfRound_163 : decode cX2_meanOfRound 163 = .ok (.iload 9, 2) := by decide +kernel
theorem dX2_meanOfRound_165 : decode cX2_meanOfRound 165 = .ok (.aload_n 1, 1) := by decide +kernel
theorem dX2_meanOfRound_166 : decode cX2_meanOfRound 166 = .ok (.iload 7, 2) := by decide +kernel
theorem dX2_meanOfRound_168 : decode cX2_meanOfRound 168 = .ok (.iconst 0, 1) := by decide +kernel
theorem dX2_meanOfRound_169 : decode cX2_meanOfRound 169 = .ok (.invokevirtual 74, 3) := by decide +kernel
theorem dX2_meanOfRound_172 : decode cX2_meanOfRound 172 = .ok (.iload 11, 2) := by decide +kernel
theorem dX2_meanOfRound_174 : decode cX2_meanOfRound 174 = .ok (.iload 12, 2) := by decide +kernel
theorem dX2_meanOfRound_176 : decode cX2_meanOfRound 176 = .ok (.invokestatic 78, 3) := by decide +kernel
theorem dX2_meanOfRound_179 : decode cX2_meanOfRound 179 = .ok (.iastore, 1) := by decide +kernel
theorem dX2_meanOfRound_180 : decode cX2_meanOfRound 180 = .ok (.iinc 9 1, 3) := by decide +kernel
theorem dX2_meanOfRound_183 : decode cX2_meanOfRound 183 = .ok (.goto (-106), 3) := by decide +kernel
theorem dX2_meanOfRound_186 : decode cX2_meanOfRound 186 = .ok (.iinc 7 (-1), 3) := by decide +kernel
theorem dX2_meanOfRound_189 : decode cX2_meanOfRound 189 = .ok (.goto (-131), 3) := by decide +kernel
theorem dX2_meanOfRound_192 : decode cX2_meanOfRound 192 = .ok (.aload_n 0, 1) := by decide +kernel
theorem dX2_meanOfRound_193 : decode cX2_meanOfRound 193 = .ok (.getfield 15, 3) := by decide +kernel
theorem dX2_meanOfRound_196 : decode cX2_meanOfRound 196 = .ok (.iconst 0, 1) := by decide +kernel
theorem dX2_meanOfRound_197 : decode cX2_meanOfRound 197 = .ok (.iaload, 1) := by decide +kernel
theorem dX2_meanOfRound_198 : decode cX2_meanOfRound 198 = .ok (.ireturn, 1) := by decide +kernel
theorem f_x_meanOf_rows : True := trivial
theorem dX2_meanOf_0 : decode cX2_meanOf 0 = .ok (.aload_n 2, 1) := by decide +kernel
theorem dX2_meanOf_1 : decode cX2_meanOf 1 = .ok (.aload_n 1, 1) := by decide +kernel
theorem dX2_meanOf_2 : decode cX2_meanOf 2 = .ok (.invokevirtual 28, 3) := by decide +kernel
theorem dX2_meanOf_5 : decode cX2_meanOf 5 = .ok (.istore 4, 2) := by decide +kernel
theorem dX2_meanOf_7 : decode cX2_meanOf 7 = .ok (.aload_n 1, 1) := by decide +kernel
theorem dX2_meanOf_8 : decode cX2_meanOf 8 = .ok (.iload 4, 2) := by decide +kernel
theorem dX2_meanOf_10 : decode cX2_meanOf 10 = .ok (.iload_n 3, 1) := by decide +kernel
theorem dX2_meanOf_11 : decode cX2_meanOf 11 = .ok (.invokestatic 34, 3) := by decide +kernel
theorem dX2_meanOf_14 : decode cX2_meanOf 14 = .ok (.istore 5, 2) := by decide +kernel
theorem dX2_meanOf_16 : decode cX2_meanOf 16 = .ok (.iload 4, 2) := by decide +kernel
theorem dX2_meanOf_18 : decode cX2_meanOf 18 = .ok (.istore 6, 2) := by decide +kernel
theorem dX2_meanOf_20 : decode cX2_meanOf 20 = .ok (.iload 6, 2) := by decide +kernel
theorem dX2_meanOf_22 : decode cX2_meanOf 22 = .ok (.ifCond .lt 40, 3) := by decide +kernel
theorem dX2_meanOf_25 : decode cX2_meanOf 25 = .ok (.aload_n 0, 1) := by decide +kernel
theorem dX2_meanOf_26 : decode cX2_meanOf 26 = .ok (.aload_n 1, 1) := by decide +kernel
theorem dX2_meanOf_27 : decode cX2_meanOf 27 = .ok (.aload_n 2, 1) := by decide +kernel
theorem dX2_meanOf_28 : decode cX2_meanOf 28 = .ok (.iload_n 3, 1) := by decide +kernel
theorem dX2_meanOf_29 : decode cX2_meanOf 29 = .ok (.iload 6, 2) := by decide +kernel
theorem dX2_meanOf_31 : decode cX2_meanOf 31 = .ok (.iload 5, 2) := by decide +kernel
theorem dX2_meanOf_33 : decode cX2_meanOf 33 = .ok (.invokevirtual 38, 3) := by decide +kernel
theorem dX2_meanOf_36 : decode cX2_meanOf 36 = .ok (.istore 5, 2) := by decide +kernel
theorem dX2_meanOf_38 : decode cX2_meanOf 38 = .ok (.iload 6, 2) := by decide +kernel
theorem dX2_meanOf_40 : decode cX2_meanOf 40 = .ok (.ifCond .le 16, 3) := by decide +kernel
theorem dX2_meanOf_43 : decode cX2_meanOf 43 = .ok (.iload_n 3, 1) := by decide +kernel
theorem dX2_meanOf_44 : decode cX2_meanOf 44 = .ok (.ifCond .ne 12, 3) := by decide +kernel
theorem dX2_meanOf_47 : decode cX2_meanOf 47 = .ok (.iload 5, 2) := by decide +kernel
theorem dX2_meanOf_49 : decode cX2_meanOf 49 = .ok (.aload_n 1, 1) := by decide +kernel
theorem dX2_meanOf_50 : decode cX2_meanOf 50 = .ok (.invokevirtual 42, 3) := by decide +kernel
theorem dX2_meanOf_53 : decode cX2_meanOf 53 = .ok (.iadd, 1) := by decide +kernel
theorem dX2_meanOf_54 : decode cX2_meanOf 54 = .ok (.istore 5, 2) := by decide +kernel
theorem dX2_meanOf_56 : decode cX2_meanOf 56 = .ok (.iinc 6 (-1), 3) := by decide +kernel
theorem dX2_meanOf_59 : decode cX2_meanOf 59 = .ok (.goto (-39), 3) := by decide +kernel
theorem dX2_meanOf_62 : decode cX2_meanOf 62 = .ok (.iload 5, 2) := by decide +kernel
theorem dX2_meanOf_64 : decode cX2_meanOf 64 = .ok (.ireturn, 1) := by decide +kernel
theorem f_x_boyOf_rows : True := trivial
theorem dX2_boyOf_0 : decode cX2_boyOf 0 = .ok (.aload_n 1, 1) := by decide +kernel
theorem dX2_boyOf_1 : decode cX2_boyOf 1 = .ok (.invokevirtual 61, 3) := by decide +kernel
theorem dX2_boyOf_4 : decode cX2_boyOf 4 = .ok (.istore_n 3, 1) := by decide +kernel
theorem dX2_boyOf_5 : decode cX2_boyOf 5 = .ok (.aload_n 0, 1) := by decide +kernel
theorem dX2_boyOf_6 : decode cX2_boyOf 6 = .ok (.getfield 18, 3) := by decide +kernel
theorem dX2_boyOf_9 : decode cX2_boyOf 9 = .ok (.iconst 0, 1) := by decide +kernel
theorem dX2_boyOf_10 : decode cX2_boyOf 10 = .ok (.iload_n 2, 1) := by decide +kernel
theorem dX2_boyOf_11 : decode cX2_boyOf 11 = .ok (.iastore, 1) := by decide +kernel
theorem dX2_boyOf_12 : decode cX2_boyOf 12 = .ok (.iconst 0, 1) := by decide +kernel
theorem dX2_boyOf_13 : decode cX2_boyOf 13 = .ok (.istore 4, 2) := by decide +kernel
theorem dX2_boyOf_15 : decode cX2_boyOf 15 = .ok (.iload 4, 2) := by decide +kernel
theorem dX2_boyOf_17 : decode cX2_boyOf 17 = .ok (.iload_n 3, 1) := by decide +kernel
theorem dX2_boyOf_18 : decode cX2_boyOf 18 = .ok (.if_icmp .ge 25, 3) := by decide +kernel
theorem dX2_boyOf_21 : decode cX2_boyOf 21 = .ok (.aload_n 0, 1) := by decide +kernel
theorem dX2_boyOf_22 : decode cX2_boyOf 22 = .ok (.getfield 18, 3) := by decide +kernel
theorem dX2_boyOf_25 : decode cX2_boyOf 25 = .ok (.iload 4, 2) := by decide +kernel
theorem dX2_boyOf_27 : decode cX2_boyOf 27 = .ok (.iconst 1, 1) := by decide +kernel
theorem dX2_boyOf_28 : decode cX2_boyOf 28 = .ok (.iadd, 1) := by decide +kernel
theorem dX2_boyOf_29 : decode cX2_boyOf 29 = .ok (.aload_n 1, 1) := by decide +kernel
theorem dX2_boyOf_30 : decode cX2_boyOf 30 = .ok (.iconst 0, 1) := by decide +kernel
theorem dX2_boyOf_31 : decode cX2_boyOf 31 = .ok (.iload 4, 2) := by decide +kernel
theorem dX2_boyOf_33 : decode cX2_boyOf 33 = .ok (.invokevirtual 57, 3) := by decide +kernel
theorem dX2_boyOf_36 : decode cX2_boyOf 36 = .ok (.iastore, 1) := by decide +kernel
theorem dX2_boyOf_37 : decode cX2_boyOf 37 = .ok (.iinc 4 1, 3) := by decide +kernel
theorem dX2_boyOf_40 : decode cX2_boyOf 40 = .ok (.goto (-25), 3) := by decide +kernel
theorem dX2_boyOf_43 : decode cX2_boyOf 43 = .ok (.iconst 0, 1) := by decide +kernel
theorem dX2_boyOf_44 : decode cX2_boyOf 44 = .ok (.istore 4, 2) := by decide +kernel
theorem dX2_boyOf_46 : decode cX2_boyOf 46 = .ok (.iload 4, 2) := by decide +kernel
theorem dX2_boyOf_48 : decode cX2_boyOf 48 = .ok (.iload_n 3, 1) := by decide +kernel
theorem dX2_boyOf_49 : decode cX2_boyOf 49 = .ok (.if_icmp .gt 37, 3) := by decide +kernel
theorem dX2_boyOf_52 : decode cX2_boyOf 52 = .ok (.aload_n 0, 1) := by decide +kernel
theorem dX2_boyOf_53 : decode cX2_boyOf 53 = .ok (.getfield 9, 3) := by decide +kernel
theorem dX2_boyOf_56 : decode cX2_boyOf 56 = .ok (.iload 4, 2) := by decide +kernel
theorem dX2_boyOf_58 : decode cX2_boyOf 58 = .ok (.aload_n 0, 1) := by decide +kernel
theorem dX2_boyOf_59 : decode cX2_boyOf 59 = .ok (.getfield 18, 3) := by decide +kernel
theorem dX2_boyOf_62 : decode cX2_boyOf 62 = .ok (.iload 4, 2) := by decide +kernel
theorem dX2_boyOf_64 : decode cX2_boyOf 64 = .ok (.iaload, 1) := by decide +kernel
theorem dX2_boyOf_65 : decode cX2_boyOf 65 = .ok (.iastore, 1) := by decide +kernel
theorem dX2_boyOf_66 : decode cX2_boyOf 66 = .ok (.aload_n 0, 1) := by decide +kernel
theorem dX2_boyOf_67 : decode cX2_boyOf 67 = .ok (.getfield 15, 3) := by decide +kernel
theorem dX2_boyOf_70 : decode cX2_boyOf 70 = .ok (.iload 4, 2) := by decide +kernel
theorem dX2_boyOf_72 : decode cX2_boyOf 72 = .ok (.aload_n 0, 1) := by decide +kernel
theorem dX2_boyOf_73 : decode cX2_boyOf 73 = .ok (.getfield 18, 3) := by decide +kernel
theorem dX2_boyOf_76 : decode cX2_boyOf 76 = .ok (.iload 4, 2) := by decide +kernel
theorem dX2_boyOf_78 : decode cX2_boyOf 78 = .ok (.iaload, 1) := by decide +kernel
theorem dX2_boyOf_79 : decode cX2_boyOf 79 = .ok (.iastore, 1) := by decide +kernel
theorem dX2_boyOf_80 : decode cX2_boyOf 80 = .ok (.iinc 4 1, 3) := by decide +kernel
theorem dX2_boyOf_83 : decode cX2_boyOf 83 = .ok (.goto (-37), 3) := by decide +kernel
theorem dX2_boyOf_86 : decode cX2_boyOf 86 = .ok (.iload_n 3, 1) := by decide +kernel
theorem dX2_boyOf_87 : decode cX2_boyOf 87 = .ok (.iconst 1, 1) := by decide +kernel
theorem dX2_boyOf_88 : decode cX2_boyOf 88 = .ok (.isub, 1) := by decide +kernel
theorem dX2_boyOf_89 : decode cX2_boyOf 89 = .ok (.istore 4, 2) := by decide +kernel
theorem dX2_boyOf_91 : decode cX2_boyOf 91 = .ok (.iload 4, 2) := by decide +kernel
theorem dX2_boyOf_93 : decode cX2_boyOf 93 = .ok (.ifCond .lt 111, 3) := by decide +kernel
theorem dX2_boyOf_96 : decode cX2_boyOf 96 = .ok (.iconst 0, 1) := by decide +kernel
theorem dX2_boyOf_97 : decode cX2_boyOf 97 = .ok (.istore 5, 2) := by decide +kernel
theorem dX2_boyOf_99 : decode cX2_boyOf 99 = .ok (.iload 5, 2) := by decide +kernel
theorem dX2_boyOf_101 : decode cX2_boyOf 101 = .ok (.iload 4, 2) := by decide +kernel
theorem dX2_boyOf_103 : decode cX2_boyOf 103 = .ok (.if_icmp .gt 95, 3) := by decide +kernel
theorem dX2_boyOf_106 : decode cX2_boyOf 106 = .ok (.aload_n 0, 1) := by decide +kernel
theorem dX2_boyOf_107 : decode cX2_boyOf 107 = .ok (.getfield 9, 3) := by decide +kernel
theorem dX2_boyOf_110 : decode cX2_boyOf 110 = .ok (.aload_n 0, 1) := by decide +kernel
theorem dX2_boyOf_111 : decode cX2_boyOf 111 = .ok (.getfield 18, 3) := by decide +kernel
theorem dX2_boyOf_114 : decode cX2_boyOf 114 = .ok (.iload 4, 2) := by decide +kernel
theorem dX2_boyOf_116 : decode cX2_boyOf 116 = .ok (.iconst 1, 1) := by decide +kernel
theorem dX2_boyOf_117 : decode cX2_boyOf 117 = .ok (.iadd, 1) := by decide +kernel
theorem dX2_boyOf_118 : decode cX2_boyOf 118 = .ok (.iaload, 1) := by decide +kernel
theorem dX2_boyOf_119 : decode cX2_boyOf 119 = .ok (.aload_n 0, 1) := by decide +kernel
theorem dX2_boyOf_120 : decode cX2_boyOf 120 = .ok (.getfield 18, 3) := by decide +kernel
theorem dX2_boyOf_123 : decode cX2_boyOf 123 = .ok (.iload 5, 2) := by decide +kernel
theorem dX2_boyOf_125 : decode cX2_boyOf 125 = .ok (.iaload, 1) := by decide +kernel
theorem dX2_boyOf_126 : decode cX2_boyOf 126 = .ok (.if_icmp .ge 10, 3) := by decide +kernel
theorem dX2_boyOf_129 : decode cX2_boyOf 129 = .ok (.iload 4, 2) := by decide +kernel
theorem dX2_boyOf_131 : decode cX2_boyOf 131 = .ok (.iconst 1, 1) := by decide +kernel
theorem dX2_boyOf_132 : decode cX2_boyOf 132 = .ok (.iadd, 1) := by decide +kernel
theorem dX2_boyOf_133 : decode cX2_boyOf 133 = .ok (.goto 5, 3) := by decide +kernel
theorem dX2_boyOf_136 : decode cX2_boyOf 136 = .ok (.iload 5, 2) := by decide +kernel
theorem dX2_boyOf_138 : decode cX2_boyOf 138 = .ok (.iaload, 1) := by decide +kernel
theorem dX2_boyOf_139 : decode cX2_boyOf 139 = .ok (.istore 6, 2) := by decide +kernel
theorem dX2_boyOf_141 : decode cX2_boyOf 141 = .ok (.aload_n 0, 1) := by decide +kernel
theorem dX2_boyOf_142 : decode cX2_boyOf 142 = .ok (.getfield 15, 3) := by decide +kernel
theorem dX2_boyOf_145 : decode cX2_boyOf 145 = .ok (.iload 5, 2) := by decide +kernel
theorem dX2_boyOf_147 : decode cX2_boyOf 147 = .ok (.iaload, 1) := by decide +kernel
theorem dX2_boyOf_148 : decode cX2_boyOf 148 = .ok (.istore 7, 2) := by decide +kernel
theorem dX2_boyOf_150 : decode cX2_boyOf 150 = .ok (.aload_n 0, 1) := by decide +kernel
theorem dX2_boyOf_151 : decode cX2_boyOf 151 = .ok (.getfield 9, 3) := by decide +kernel
theorem dX2_boyOf_154 : decode cX2_boyOf 154 = .ok (.iload 5, 2) := by decide +kernel
theorem dX2_boyOf_156 : decode cX2_boyOf 156 = .ok (.aload_n 1, 1) := by decide +kernel
theorem dX2_boyOf_157 : decode cX2_boyOf 157 = .ok (.iload 4, 2) := by decide +kernel
theorem dX2_boyOf_159 : decode cX2_boyOf 159 = .ok (.iconst 1, 1) := by decide +kernel
theorem dX2_boyOf_160 : decode cX2_boyOf 160 = .ok (.invokevirtual 74, 3) := by decide +kernel
theorem dX2_boyOf_163 : decode cX2_boyOf 163 = .ok (.iload 6, 2) := by decide +kernel
theorem dX2_boyOf_165 : decode cX2_boyOf 165 = .ok (.iload 7, 2) := by decide +kernel
theorem dX2_boyOf_167 : decode cX2_boyOf 167 = .ok (.invokestatic 78, 3) := by decide +kernel
theorem dX2_boyOf_170 : decode cX2_boyOf 170 = .ok (.iastore, 1) := by decide +kernel
theorem dX2_boyOf_171 : decode cX2_boyOf 171 = .ok (.aload_n 0, 1) := by decide +kernel
theorem dX2_boyOf_172 : decode cX2_boyOf 172 = .ok (.getfield 15, 3) := by decide +kernel
theorem dX2_boyOf_175 : decode cX2_boyOf 175 = .ok (.iload 5, 2) := by decide +kernel
theorem dX2_boyOf_177 : decode cX2_boyOf 177 = .ok (.aload_n 1, 1) := by decide +kernel
theorem dX2_boyOf_178 : decode cX2_boyOf 178 = .ok (.iload 4, 2) := by decide +kernel
theorem dX2_boyOf_180 : decode cX2_boyOf 180 = .ok (.iconst 0, 1) := by decide +kernel
theorem dX2_boyOf_181 : decode cX2_boyOf 181 = .ok (.invokevirtual 74, 3) := by decide +kernel
theorem dX2_boyOf_184 : decode cX2_boyOf 184 = .ok (.iload 6, 2) := by decide +kernel
theorem dX2_boyOf_186 : decode cX2_boyOf 186 = .ok (.iload 7, 2) := by decide +kernel
theorem dX2_boyOf_188 : decode cX2_boyOf 188 = .ok (.invokestatic 78, 3) := by decide +kernel
theorem dX2_boyOf_191 : decode cX2_boyOf 191 = .ok (.iastore, 1) := by decide +kernel
theorem dX2_boyOf_192 : decode cX2_boyOf 192 = .ok (.iinc 5 1, 3) := by decide +kernel
theorem dX2_boyOf_195 : decode cX2_boyOf 195 = .ok (.goto (-96), 3) := by decide +kernel
theorem dX2_boyOf_198 : decode cX2_boyOf 198 = .ok (.iinc 4 (-1), 3) := by decide +kernel
theorem dX2_boyOf_201 : decode cX2_boyOf 201 = .ok (.goto (-110), 3) := by decide +kernel
theorem dX2_boyOf_204 : decode cX2_boyOf 204 = .ok (.aload_n 0, 1) := by decide +kernel
theorem dX2_boyOf_205 : decode cX2_boyOf 205 = .ok (.getfield 15, 3) := by decide +kernel
theorem dX2_boyOf_208 : decode cX2_boyOf 208 = .ok (.iconst 0, 1) := by decide +kernel
theorem dX2_boyOf_209 : decode cX2_boyOf 209 = .ok (.iaload, 1) := by decide +kernel
theorem dX2_boyOf_210 : decode cX2_boyOf 210 = .ok (.ireturn, 1) := by decide +kernel
theorem f_x_reckonWait_rows : True := trivial
theorem dX2_reckonWait_0 : decode cX2_reckonWait 0 = .ok (.aload_n 0, 1) := by decide +kernel
theorem dX2_reckonWait_1 : decode cX2_reckonWait 1 = .ok (.iconst 0, 1) := by decide +kernel
theorem dX2_reckonWait_2 : decode cX2_reckonWait 2 = .ok (.putfield 21, 3) := by decide +kernel
theorem dX2_reckonWait_5 : decode cX2_reckonWait 5 = .ok (.aload_n 0, 1) := by decide +kernel
theorem dX2_reckonWait_6 : decode cX2_reckonWait 6 = .ok (.iload_n 1, 1) := by decide +kernel
theorem dX2_reckonWait_7 : decode cX2_reckonWait 7 = .ok (.putfield 25, 3) := by decide +kernel
theorem dX2_reckonWait_10 : decode cX2_reckonWait 10 = .ok (.iload_n 1, 1) := by decide +kernel
theorem dX2_reckonWait_11 : decode cX2_reckonWait 11 = .ok (.istore 5, 2) := by decide +kernel
theorem dX2_reckonWait_13 : decode cX2_reckonWait 13 = .ok (.iconst 1, 1) := by decide +kernel
theorem dX2_reckonWait_14 : decode cX2_reckonWait 14 = .ok (.istore 6, 2) := by decide +kernel
theorem dX2_reckonWait_16 : decode cX2_reckonWait 16 = .ok (.iload 6, 2) := by decide +kernel
theorem dX2_reckonWait_18 : decode cX2_reckonWait 18 = .ok (.bipush 20, 2) := by decide +kernel
theorem dX2_reckonWait_20 : decode cX2_reckonWait 20 = .ok (.if_icmp .gt 46, 3) := by decide +kernel
theorem dX2_reckonWait_23 : decode cX2_reckonWait 23 = .ok (.sipush 1000, 3) := by decide +kernel
theorem dX2_reckonWait_26 : decode cX2_reckonWait 26 = .ok (.iload 4, 2) := by decide +kernel
theorem dX2_reckonWait_28 : decode cX2_reckonWait 28 = .ok (.imul, 1) := by decide +kernel
theorem dX2_reckonWait_29 : decode cX2_reckonWait 29 = .ok (.iload_n 3, 1) := by decide +kernel
theorem dX2_reckonWait_30 : decode cX2_reckonWait 30 = .ok (.iload_n 2, 1) := by decide +kernel
theorem dX2_reckonWait_31 : decode cX2_reckonWait 31 = .ok (.iload 5, 2) := by decide +kernel
theorem dX2_reckonWait_33 : decode cX2_reckonWait 33 = .ok (.invokestatic 78, 3) := by decide +kernel
theorem dX2_reckonWait_36 : decode cX2_reckonWait 36 = .ok (.iadd, 1) := by decide +kernel
theorem dX2_reckonWait_37 : decode cX2_reckonWait 37 = .ok (.istore 5, 2) := by decide +kernel
theorem dX2_reckonWait_39 : decode cX2_reckonWait 39 = .ok (.iload 5, 2) := by decide +kernel
theorem dX2_reckonWait_41 : decode cX2_reckonWait 41 = .ok (.aload_n 0, 1) := by decide +kernel
theorem dX2_reckonWait_42 : decode cX2_reckonWait 42 = .ok (.getfield 25, 3) := by decide +kernel
theorem dX2_reckonWait_45 : decode cX2_reckonWait 45 = .ok (.if_icmp .ge 15, 3) := by decide +kernel
theorem dX2_reckonWait_48 : decode cX2_reckonWait 48 = .ok (.aload_n 0, 1) := by decide +kernel
theorem dX2_reckonWait_49 : decode cX2_reckonWait 49 = .ok (.iload 5, 2) := by decide +kernel
theorem dX2_reckonWait_51 : decode cX2_reckonWait 51 = .ok (.putfield 25, 3) := by decide +kernel
theorem dX2_reckonWait_54 : decode cX2_reckonWait 54 = .ok (.aload_n 0, 1) := by decide +kernel
theorem dX2_reckonWait_55 : decode cX2_reckonWait 55 = .ok (.iload 6, 2) := by decide +kernel
theorem dX2_reckonWait_57 : decode cX2_reckonWait 57 = .ok (.putfield 21, 3) := by decide +kernel
theorem dX2_reckonWait_60 : decode cX2_reckonWait 60 = .ok (.iinc 6 1, 3) := by decide +kernel
theorem dX2_reckonWait_63 : decode cX2_reckonWait 63 = .ok (.goto (-47), 3) := by decide +kernel
theorem dX2_reckonWait_66 : decode cX2_reckonWait 66 = .ok (.return_, 1) := by decide +kernel
theorem f_x_likelihood_rows : True := trivial
theorem dX2_likelihood_0 : decode cX2_likelihood 0 = .ok (.aload_n 0, 1) := by decide +kernel
theorem dX2_likelihood_1 : decode cX2_likelihood 1 = .ok (.iload_n 1, 1) := by decide +kernel
theorem dX2_likelihood_2 : decode cX2_likelihood 2 = .ok (.iload_n 2, 1) := by decide +kernel
theorem dX2_likelihood_3 : decode cX2_likelihood 3 = .ok (.invokevirtual 74, 3) := by decide +kernel
theorem dX2_likelihood_6 : decode cX2_likelihood 6 = .ok (.istore 4, 2) := by decide +kernel
theorem dX2_likelihood_8 : decode cX2_likelihood 8 = .ok (.iload_n 3, 1) := by decide +kernel
theorem dX2_likelihood_9 : decode cX2_likelihood 9 = .ok (.ifCond .eq 8, 3) := by decide +kernel
theorem dX2_likelihood_12 : decode cX2_likelihood 12 = .ok (.iload 4, 2) := by decide +kernel
theorem dX2_likelihood_14 : decode cX2_likelihood 14 = .ok (.goto 8, 3) := by decide +kernel
theorem dX2_likelihood_17 : decode cX2_likelihood 17 = .ok (.bipush 100, 2) := by decide +kernel
theorem dX2_likelihood_19 : decode cX2_likelihood 19 = .ok (.iload 4, 2) := by decide +kernel
theorem dX2_likelihood_21 : decode cX2_likelihood 21 = .ok (.isub, 1) := by decide +kernel
theorem dX2_likelihood_22 : decode cX2_likelihood 22 = .ok (.ireturn, 1) := by decide +kernel
theorem f_x_thoughtOf1_rows : True := trivial
theorem dX2_thoughtOf_0 : decode cX2_thoughtOf 0 = .ok (.ldc2_w 82, 3) := by decide +kernel
theorem dX2_thoughtOf_3 : decode cX2_thoughtOf 3 = .ok (.lstore 4, 2) := by decide +kernel
theorem dX2_thoughtOf_5 : decode cX2_thoughtOf 5 = .ok (.ldc2_w 82, 3) := by decide +kernel
theorem dX2_thoughtOf_8 : decode cX2_thoughtOf 8 = .ok (.lstore 6, 2) := by decide +kernel
theorem dX2_thoughtOf_10 : decode cX2_thoughtOf 10 = .ok (.aload_n 3, 1) := by decide +kernel
theorem dX2_thoughtOf_11 : decode cX2_thoughtOf 11 = .ok (.getfield 84, 3) := by decide +kernel
theorem dX2_thoughtOf_14 : decode cX2_thoughtOf 14 = .ok (.aload_n 1, 1) := by decide +kernel
theorem dX2_thoughtOf_15 : decode cX2_thoughtOf 15 = .ok (.invokevirtual 61, 3) := by decide +kernel
theorem dX2_thoughtOf_18 : decode cX2_thoughtOf 18 = .ok (.aload_n 2, 1) := by decide +kernel
theorem dX2_thoughtOf_19 : decode cX2_thoughtOf 19 = .ok (.invokevirtual 61, 3) := by decide +kernel
theorem dX2_thoughtOf_22 : decode cX2_thoughtOf 22 = .ok (.invokestatic 89, 3) := by decide +kernel
theorem dX2_thoughtOf_25 : decode cX2_thoughtOf 25 = .ok (.invokestatic 89, 3) := by decide +kernel
theorem dX2_thoughtOf_28 : decode cX2_thoughtOf 28 = .ok (.istore 8, 2) := by decide +kernel
theorem dX2_thoughtOf_30 : decode cX2_thoughtOf 30 = .ok (.iconst 0, 1) := by decide +kernel
theorem dX2_thoughtOf_31 : decode cX2_thoughtOf 31 = .ok (.istore 9, 2) := by decide +kernel
theorem dX2_thoughtOf_33 : decode cX2_thoughtOf 33 = .ok (.iconst 0, 1) := by decide +kernel
theorem dX2_thoughtOf_34 : decode cX2_thoughtOf 34 = .ok (.istore 10, 2) := by decide +kernel
theorem dX2_thoughtOf_36 : decode cX2_thoughtOf 36 = .ok (.iload 10, 2) := by decide +kernel
theorem dX2_thoughtOf_38 : decode cX2_thoughtOf 38 = .ok (.iload 8, 2) := by decide +kernel
theorem dX2_thoughtOf_40 : decode cX2_thoughtOf 40 = .ok (.if_icmp .ge 99, 3) := by decide +kernel
theorem dX2_thoughtOf_43 : decode cX2_thoughtOf 43 = .ok (.aload_n 3, 1) := by decide +kernel
theorem dX2_thoughtOf_44 : decode cX2_thoughtOf 44 = .ok (.iload 10, 2) := by decide +kernel
theorem dX2_thoughtOf_46 : decode cX2_thoughtOf 46 = .ok (.invokevirtual 94, 3) := by decide +kernel
theorem dX2_thoughtOf_49 : decode cX2_thoughtOf 49 = .ok (.istore 11, 2) := by decide +kernel
theorem dX2_thoughtOf_51 : decode cX2_thoughtOf 51 = .ok (.lload 4, 2) := by decide +kernel
theorem dX2_thoughtOf_53 : decode cX2_thoughtOf 53 = .ok (.aload_n 1, 1) := by decide +kernel
theorem dX2_thoughtOf_54 : decode cX2_thoughtOf 54 = .ok (.iload 10, 2) := by decide +kernel
theorem dX2_thoughtOf_56 : decode cX2_thoughtOf 56 = .ok (.iload 9, 2) := by decide +kernel
theorem dX2_thoughtOf_58 : decode cX2_thoughtOf 58 = .ok (.iload 11, 2) := by decide +kernel
theorem dX2_thoughtOf_60 : decode cX2_thoughtOf 60 = .ok (.invokestatic 97, 3) := by decide +kernel
theorem dX2_thoughtOf_63 : decode cX2_thoughtOf 63 = .ok (.i2l, 1) := by decide +kernel
theorem dX2_thoughtOf_64 : decode cX2_thoughtOf 64 = .ok (.lmul, 1) := by decide +kernel
theorem dX2_thoughtOf_65 : decode cX2_thoughtOf 65 = .ok (.ldc2_w 101, 3) := by decide +kernel
theorem dX2_thoughtOf_68 : decode cX2_thoughtOf 68 = .ok (.ldiv, 1) := by decide +kernel
theorem dX2_thoughtOf_69 : decode cX2_thoughtOf 69 = .ok (.lstore 4, 2) := by decide +kernel
theorem dX2_thoughtOf_71 : decode cX2_thoughtOf 71 = .ok (.lload 6, 2) := by decide +kernel
theorem dX2_thoughtOf_73 : decode cX2_thoughtOf 73 = .ok (.aload_n 2, 1) := by decide +kernel
theorem dX2_thoughtOf_74 : decode cX2_thoughtOf 74 = .ok (.iload 10, 2) := by decide +kernel
theorem dX2_thoughtOf_76 : decode cX2_thoughtOf 76 = .ok (.iload 9, 2) := by decide +kernel
theorem dX2_thoughtOf_78 : decode cX2_thoughtOf 78 = .ok (.iload 11, 2) := by decide +kernel
theorem dX2_thoughtOf_80 : decode cX2_thoughtOf 80 = .ok (.invokestatic 97, 3) := by decide +kernel
theorem dX2_thoughtOf_83 : decode cX2_thoughtOf 83 = .ok (.i2l, 1) := by decide +kernel
theorem dX2_thoughtOf_84 : decode cX2_thoughtOf 84 = .ok (.lmul, 1) := by decide +kernel
theorem dX2_thoughtOf_85 : decode cX2_thoughtOf 85 = .ok (.ldc2_w 101, 3) := by decide +kernel
theorem dX2_thoughtOf_88 : decode cX2_thoughtOf 88 = .ok (.ldiv, 1) := by decide +kernel
theorem dX2_thoughtOf_89 : decode cX2_thoughtOf 89 = .ok (.lstore 6, 2) := by decide +kernel
theorem dX2_thoughtOf_91 : decode cX2_thoughtOf 91 = .ok (.lload 4, 2) := by decide +kernel
theorem dX2_thoughtOf_93 : decode cX2_thoughtOf 93 = .ok (.lload 6, 2) := by decide +kernel
theorem dX2_thoughtOf_95 : decode cX2_thoughtOf 95 = .ok (.invokestatic 103, 3) := by decide +kernel
theorem dX2_thoughtOf_98 : decode cX2_thoughtOf 98 = .ok (.lstore 12, 2) := by decide +kernel
theorem dX2_thoughtOf_100 : decode cX2_thoughtOf 100 = .ok (.lload 12, 2) := by decide +kernel
theorem dX2_thoughtOf_102 : decode cX2_thoughtOf 102 = .ok (.lconst 0, 1) := by decide +kernel
theorem dX2_thoughtOf_103 : decode cX2_thoughtOf 103 = .ok (.lcmp, 1) := by decide +kernel
theorem dX2_thoughtOf_104 : decode cX2_thoughtOf 104 = .ok (.ifCond .le 25, 3) := by decide +kernel
theorem dX2_thoughtOf_107 : decode cX2_thoughtOf 107 = .ok (.lload 4, 2) := by decide +kernel
theorem dX2_thoughtOf_109 : decode cX2_thoughtOf 109 = .ok (.ldc2_w 107, 3) := by decide +kernel
theorem dX2_thoughtOf_112 : decode cX2_thoughtOf 112 = .ok (.lmul, 1) := by decide +kernel
theorem dX2_thoughtOf_113 : decode cX2_thoughtOf 113 = .ok (.lload 12, 2) := by decide +kernel
theorem dX2_thoughtOf_115 : decode cX2_thoughtOf 115 = .ok (.ldiv, 1) := by decide +kernel
theorem dX2_thoughtOf_116 : decode cX2_thoughtOf 116 = .ok (.lstore 4, 2) := by decide +kernel
theorem dX2_thoughtOf_118 : decode cX2_thoughtOf 118 = .ok (.lload 6, 2) := by decide +kernel
theorem dX2_thoughtOf_120 : decode cX2_thoughtOf 120 = .ok (.ldc2_w 107, 3) := by decide +kernel
theorem dX2_thoughtOf_123 : decode cX2_thoughtOf 123 = .ok (.lmul, 1) := by decide +kernel
theorem dX2_thoughtOf_124 : decode cX2_thoughtOf 124 = .ok (.lload 12, 2) := by decide +kernel
theorem dX2_thoughtOf_126 : decode cX2_thoughtOf 126 = .ok (.ldiv, 1) := by decide +kernel
theorem dX2_thoughtOf_127 : decode cX2_thoughtOf 127 = .ok (.lstore 6, 2) := by decide +kernel
theorem dX2_thoughtOf_129 : decode cX2_thoughtOf 129 = .ok (.iload 11, 2) := by decide +kernel
theorem dX2_thoughtOf_131 : decode cX2_thoughtOf 131 = .ok (.istore 9, 2) := by decide +kernel
theorem dX2_thoughtOf_133 : decode cX2_thoughtOf 133 = .ok (.iinc 10 1, 3) := by decide +kernel
theorem dX2_thoughtOf_136 : decode cX2_thoughtOf 136 = .ok (.goto (-100), 3) := by decide +kernel
theorem dX2_thoughtOf_139 : decode cX2_thoughtOf 139 = .ok (.lload 4, 2) := by decide +kernel
theorem dX2_thoughtOf_141 : decode cX2_thoughtOf 141 = .ok (.lload 6, 2) := by decide +kernel
theorem dX2_thoughtOf_143 : decode cX2_thoughtOf 143 = .ok (.ladd, 1) := by decide +kernel
theorem dX2_thoughtOf_144 : decode cX2_thoughtOf 144 = .ok (.lstore 10, 2) := by decide +kernel
theorem dX2_thoughtOf_146 : decode cX2_thoughtOf 146 = .ok (.lload 10, 2) := by decide +kernel
theorem dX2_thoughtOf_148 : decode cX2_thoughtOf 148 = .ok (.lconst 0, 1) := by decide +kernel
theorem dX2_thoughtOf_149 : decode cX2_thoughtOf 149 = .ok (.lcmp, 1) := by decide +kernel
theorem dX2_thoughtOf_150 : decode cX2_thoughtOf 150 = .ok (.ifCond .le 16, 3) := by decide +kernel
theorem dX2_thoughtOf_153 : decode cX2_thoughtOf 153 = .ok (.lload 4, 2) := by decide +kernel
theorem dX2_thoughtOf_155 : decode cX2_thoughtOf 155 = .ok (.ldc2_w 107, 3) := by decide +kernel
theorem dX2_thoughtOf_158 : decode cX2_thoughtOf 158 = .ok (.lmul, 1) := by decide +kernel
theorem dX2_thoughtOf_159 : decode cX2_thoughtOf 159 = .ok (.lload 10, 2) := by decide +kernel
theorem dX2_thoughtOf_161 : decode cX2_thoughtOf 161 = .ok (.ldiv, 1) := by decide +kernel
theorem dX2_thoughtOf_162 : decode cX2_thoughtOf 162 = .ok (.l2i, 1) := by decide +kernel
theorem dX2_thoughtOf_163 : decode cX2_thoughtOf 163 = .ok (.goto 4, 3) := by decide +kernel
theorem dX2_thoughtOf_166 : decode cX2_thoughtOf 166 = .ok (.iconst 0, 1) := by decide +kernel
theorem dX2_thoughtOf_167 : decode cX2_thoughtOf 167 = .ok (.ireturn, 1) := by decide +kernel
theorem f_x_eveningOf_rows : True := trivial
theorem dX2_eveningOf_0 : decode cX2_eveningOf 0 = .ok (.aload_n 2, 1) := by decide +kernel
theorem dX2_eveningOf_1 : decode cX2_eveningOf 1 = .ok (.aload_n 1, 1) := by decide +kernel
theorem dX2_eveningOf_2 : decode cX2_eveningOf 2 = .ok (.invokevirtual 28, 3) := by decide +kernel
theorem dX2_eveningOf_5 : decode cX2_eveningOf 5 = .ok (.istore 4, 2) := by decide +kernel
theorem dX2_eveningOf_7 : decode cX2_eveningOf 7 = .ok (.iconst 0, 1) := by decide +kernel
theorem dX2_eveningOf_8 : decode cX2_eveningOf 8 = .ok (.istore 5, 2) := by decide +kernel
theorem dX2_eveningOf_10 : decode cX2_eveningOf 10 = .ok (.iconst 0, 1) := by decide +kernel
theorem dX2_eveningOf_11 : decode cX2_eveningOf 11 = .ok (.istore 6, 2) := by decide +kernel
theorem dX2_eveningOf_13 : decode cX2_eveningOf 13 = .ok (.iload 6, 2) := by decide +kernel
theorem dX2_eveningOf_15 : decode cX2_eveningOf 15 = .ok (.iload 4, 2) := by decide +kernel
theorem dX2_eveningOf_17 : decode cX2_eveningOf 17 = .ok (.if_icmp .gt 127, 3) := by decide +kernel
theorem dX2_eveningOf_20 : decode cX2_eveningOf 20 = .ok (.iconst 0, 1) := by decide +kernel
theorem dX2_eveningOf_21 : decode cX2_eveningOf 21 = .ok (.istore 7, 2) := by decide +kernel
theorem dX2_eveningOf_23 : decode cX2_eveningOf 23 = .ok (.iconst 0, 1) := by decide +kernel
theorem dX2_eveningOf_24 : decode cX2_eveningOf 24 = .ok (.istore 8, 2) := by decide +kernel
theorem dX2_eveningOf_26 : decode cX2_eveningOf 26 = .ok (.iconst 0, 1) := by decide +kernel
theorem dX2_eveningOf_27 : decode cX2_eveningOf 27 = .ok (.istore 9, 2) := by decide +kernel
theorem dX2_eveningOf_29 : decode cX2_eveningOf 29 = .ok (.iload 9, 2) := by decide +kernel
theorem dX2_eveningOf_31 : decode cX2_eveningOf 31 = .ok (.aload_n 1, 1) := by decide +kernel
theorem dX2_eveningOf_32 : decode cX2_eveningOf 32 = .ok (.invokevirtual 61, 3) := by decide +kernel
theorem dX2_eveningOf_35 : decode cX2_eveningOf 35 = .ok (.if_icmp .ge 87, 3) := by decide +kernel
theorem dX2_eveningOf_38 : decode cX2_eveningOf 38 = .ok (.aload_n 3, 1) := by decide +kernel
theorem dX2_eveningOf_39 : decode cX2_eveningOf 39 = .ok (.invokevirtual 109, 3) := by decide +kernel
theorem dX2_eveningOf_42 : decode cX2_eveningOf 42 = .ok (.aload_n 1, 1) := by decide +kernel
theorem dX2_eveningOf_43 : decode cX2_eveningOf 43 = .ok (.iload 9, 2) := by decide +kernel
theorem dX2_eveningOf_45 : decode cX2_eveningOf 45 = .ok (.iload 8, 2) := by decide +kernel
theorem dX2_eveningOf_47 : decode cX2_eveningOf 47 = .ok (.invokevirtual 74, 3) := by decide +kernel
theorem dX2_eveningOf_50 : decode cX2_eveningOf 50 = .ok (.if_icmp .ge 7, 3) := by decide +kernel
theorem dX2_eveningOf_53 : decode cX2_eveningOf 53 = .ok (.iconst 1, 1) := by decide +kernel
theorem dX2_eveningOf_54 : decode cX2_eveningOf 54 = .ok (.goto 4, 3) := by decide +kernel
theorem dX2_eveningOf_57 : decode cX2_eveningOf 57 = .ok (.iconst 0, 1) := by decide +kernel
theorem dX2_eveningOf_58 : decode cX2_eveningOf 58 = .ok (.istore 10, 2) := by decide +kernel
theorem dX2_eveningOf_60 : decode cX2_eveningOf 60 = .ok (.iload 10, 2) := by decide +kernel
theorem dX2_eveningOf_62 : decode cX2_eveningOf 62 = .ok (.ifCond .eq 26, 3) := by decide +kernel
theorem dX2_eveningOf_65 : decode cX2_eveningOf 65 = .ok (.iload 9, 2) := by decide +kernel
theorem dX2_eveningOf_67 : decode cX2_eveningOf 67 = .ok (.aload_n 2, 1) := by decide +kernel
theorem dX2_eveningOf_68 : decode cX2_eveningOf 68 = .ok (.iload 7, 2) := by decide +kernel
theorem dX2_eveningOf_70 : decode cX2_eveningOf 70 = .ok (.invokevirtual 71, 3) := by decide +kernel
theorem dX2_eveningOf_73 : decode cX2_eveningOf 73 = .ok (.if_icmp .lt 15, 3) := by decide +kernel
theorem dX2_eveningOf_76 : decode cX2_eveningOf 76 = .ok (.iload 5, 2) := by decide +kernel
theorem dX2_eveningOf_78 : decode cX2_eveningOf 78 = .ok (.aload_n 1, 1) := by decide +kernel
theorem dX2_eveningOf_79 : decode cX2_eveningOf 79 = .ok (.iload 6, 2) := by decide +kernel
theorem dX2_eveningOf_81 : decode cX2_eveningOf 81 = .ok (.iload 9, 2) := by decide +kernel
theorem dX2_eveningOf_83 : decode cX2_eveningOf 83 = .ok (.invokevirtual 57, 3) := by decide +kernel
theorem dX2_eveningOf_86 : decode cX2_eveningOf 86 = .ok (.iadd, 1) := by decide +kernel
theorem dX2_eveningOf_87 : decode cX2_eveningOf 87 = .ok (.ireturn, 1) := by decide +kernel
theorem dX2_eveningOf_88 : decode cX2_eveningOf 88 = .ok (.iload 5, 2) := by decide +kernel
theorem dX2_eveningOf_90 : decode cX2_eveningOf 90 = .ok (.aload_n 1, 1) := by decide +kernel
theorem dX2_eveningOf_91 : decode cX2_eveningOf 91 = .ok (.invokevirtual 64, 3) := by decide +kernel
theorem dX2_eveningOf_94 : decode cX2_eveningOf 94 = .ok (.iadd, 1) := by decide +kernel
theorem dX2_eveningOf_95 : decode cX2_eveningOf 95 = .ok (.istore 5, 2) := by decide +kernel
theorem dX2_eveningOf_97 : decode cX2_eveningOf 97 = .ok (.iload 7, 2) := by decide +kernel
theorem dX2_eveningOf_99 : decode cX2_eveningOf 99 = .ok (.iload 10, 2) := by decide +kernel
theorem dX2_eveningOf_101 : decode cX2_eveningOf 101 = .ok (.ifCond .eq 7, 3) := by decide +kernel
theorem dX2_eveningOf_104 : decode cX2_eveningOf 104 = .ok (.iconst 1, 1) := by decide +kernel
theorem dX2_eveningOf_105 : decode cX2_eveningOf 105 = .ok (.goto 4, 3) := by decide +kernel
theorem dX2_eveningOf_108 : decode cX2_eveningOf 108 = .ok (.iconst 0, 1) := by decide +kernel
theorem dX2_eveningOf_109 : decode cX2_eveningOf 109 = .ok (.iadd, 1) := by decide +kernel
theorem dX2_eveningOf_110 : decode cX2_eveningOf 110 = .ok (.istore 7, 2) := by decide +kernel
theorem dX2_eveningOf_112 : decode cX2_eveningOf 112 = .ok (.iload 10, 2) := by decide +kernel
theorem dX2_eveningOf_114 : decode cX2_eveningOf 114 = .ok (.istore 8, 2) := by decide +kernel
theorem dX2_eveningOf_116 : decode cX2_eveningOf 116 = .ok (.iinc 9 1, 3) := by decide +kernel
theorem dX2_eveningOf_119 : decode cX2_eveningOf 119 = .ok (.goto (-90), 3) := by decide +kernel
theorem dX2_eveningOf_122 : decode cX2_eveningOf 122 = .ok (.iload 6, 2) := by decide +kernel
theorem dX2_eveningOf_124 : decode cX2_eveningOf 124 = .ok (.iload 4, 2) := by decide +kernel
theorem dX2_eveningOf_126 : decode cX2_eveningOf 126 = .ok (.if_icmp .ge 12, 3) := by decide +kernel
theorem dX2_eveningOf_129 : decode cX2_eveningOf 129 = .ok (.iload 5, 2) := by decide +kernel
theorem dX2_eveningOf_131 : decode cX2_eveningOf 131 = .ok (.aload_n 1, 1) := by decide +kernel
theorem dX2_eveningOf_132 : decode cX2_eveningOf 132 = .ok (.invokevirtual 42, 3) := by decide +kernel
theorem dX2_eveningOf_135 : decode cX2_eveningOf 135 = .ok (.iadd, 1) := by decide +kernel
theorem dX2_eveningOf_136 : decode cX2_eveningOf 136 = .ok (.istore 5, 2) := by decide +kernel
theorem dX2_eveningOf_138 : decode cX2_eveningOf 138 = .ok (.iinc 6 1, 3) := by decide +kernel
theorem dX2_eveningOf_141 : decode cX2_eveningOf 141 = .ok (.goto (-128), 3) := by decide +kernel
theorem dX2_eveningOf_144 : decode cX2_eveningOf 144 = .ok (.iload 5, 2) := by decide +kernel
theorem dX2_eveningOf_146 : decode cX2_eveningOf 146 = .ok (.aload_n 1, 1) := by decide +kernel
theorem dX2_eveningOf_147 : decode cX2_eveningOf 147 = .ok (.iload 4, 2) := by decide +kernel
theorem dX2_eveningOf_149 : decode cX2_eveningOf 149 = .ok (.invokevirtual 48, 3) := by decide +kernel
theorem dX2_eveningOf_152 : decode cX2_eveningOf 152 = .ok (.iadd, 1) := by decide +kernel
theorem dX2_eveningOf_153 : decode cX2_eveningOf 153 = .ok (.ireturn, 1) := by decide +kernel

theorem f_m_code_rows : True := trivial
theorem dX8_code_0 : decode cX8_code 0 = .ok (.ldc2_w 140, 3) := by decide +kernel
theorem dX8_code_3 : decode cX8_code 3 = .ok (.ldc2_w 140, 3) := by decide +kernel
theorem dX8_code_6 : decode cX8_code 6 = .ok (.iload_n 0, 1) := by decide +kernel
theorem dX8_code_7 : decode cX8_code 7 = .ok (.i2l, 1) := by decide +kernel
theorem dX8_code_8 : decode cX8_code 8 = .ok (.ldc2_w 142, 3) := by decide +kernel
theorem dX8_code_11 : decode cX8_code 11 = .ok (.lsub, 1) := by decide +kernel
theorem dX8_code_12 : decode cX8_code 12 = .ok (.lmul, 1) := by decide +kernel
theorem dX8_code_13 : decode cX8_code 13 = .ok (.iload_n 1, 1) := by decide +kernel
theorem dX8_code_14 : decode cX8_code 14 = .ok (.i2l, 1) := by decide +kernel
theorem dX8_code_15 : decode cX8_code 15 = .ok (.ladd, 1) := by decide +kernel
theorem dX8_code_16 : decode cX8_code 16 = .ok (.ldc2_w 142, 3) := by decide +kernel
theorem dX8_code_19 : decode cX8_code 19 = .ok (.lsub, 1) := by decide +kernel
theorem dX8_code_20 : decode cX8_code 20 = .ok (.lmul, 1) := by decide +kernel
theorem dX8_code_21 : decode cX8_code 21 = .ok (.iload_n 2, 1) := by decide +kernel
theorem dX8_code_22 : decode cX8_code 22 = .ok (.i2l, 1) := by decide +kernel
theorem dX8_code_23 : decode cX8_code 23 = .ok (.ladd, 1) := by decide +kernel
theorem dX8_code_24 : decode cX8_code 24 = .ok (.ldc2_w 142, 3) := by decide +kernel
theorem dX8_code_27 : decode cX8_code 27 = .ok (.lsub, 1) := by decide +kernel
theorem dX8_code_28 : decode cX8_code 28 = .ok (.lreturn, 1) := by decide +kernel
theorem f_m_longer_rows : True := trivial
theorem dX8_longer_0 : decode cX8_longer 0 = .ok (.ldc2_w 140, 3) := by decide +kernel
theorem dX8_longer_3 : decode cX8_longer 3 = .ok (.lload_n 0, 1) := by decide +kernel
theorem dX8_longer_4 : decode cX8_longer 4 = .ok (.lmul, 1) := by decide +kernel
theorem dX8_longer_5 : decode cX8_longer 5 = .ok (.iload_n 2, 1) := by decide +kernel
theorem dX8_longer_6 : decode cX8_longer 6 = .ok (.i2l, 1) := by decide +kernel
theorem dX8_longer_7 : decode cX8_longer 7 = .ok (.ladd, 1) := by decide +kernel
theorem dX8_longer_8 : decode cX8_longer 8 = .ok (.ldc2_w 142, 3) := by decide +kernel
theorem dX8_longer_11 : decode cX8_longer 11 = .ok (.lsub, 1) := by decide +kernel
theorem dX8_longer_12 : decode cX8_longer 12 = .ok (.lreturn, 1) := by decide +kernel
theorem f_m_longest_rows : True := trivial
theorem dX8_longest_0 : decode cX8_longest 0 = .ok (.lload_n 0, 1) := by decide +kernel
theorem dX8_longest_1 : decode cX8_longest 1 = .ok (.iload_n 2, 1) := by decide +kernel
theorem dX8_longest_2 : decode cX8_longest 2 = .ok (.invokestatic 144, 3) := by decide +kernel
theorem dX8_longest_5 : decode cX8_longest 5 = .ok (.iload_n 3, 1) := by decide +kernel
theorem dX8_longest_6 : decode cX8_longest 6 = .ok (.invokestatic 144, 3) := by decide +kernel
theorem dX8_longest_9 : decode cX8_longest 9 = .ok (.lreturn, 1) := by decide +kernel
theorem f_m_fails_rows : True := trivial
theorem dX8_fails_0 : decode cX8_fails 0 = .ok (.aload_n 0, 1) := by decide +kernel
theorem dX8_fails_1 : decode cX8_fails 1 = .ok (.iload_n 2, 1) := by decide +kernel
theorem dX8_fails_2 : decode cX8_fails 2 = .ok (.putfield 25, 3) := by decide +kernel
theorem dX8_fails_5 : decode cX8_fails 5 = .ok (.iload_n 1, 1) := by decide +kernel
theorem dX8_fails_6 : decode cX8_fails 6 = .ok (.ireturn, 1) := by decide +kernel
theorem f_m_here_rows : True := trivial
theorem dX8_here_0 : decode cX8_here 0 = .ok (.aload_n 0, 1) := by decide +kernel
theorem dX8_here_1 : decode cX8_here 1 = .ok (.getfield 118, 3) := by decide +kernel
theorem dX8_here_4 : decode cX8_here 4 = .ok (.aload_n 0, 1) := by decide +kernel
theorem dX8_here_5 : decode cX8_here 5 = .ok (.getfield 113, 3) := by decide +kernel
theorem dX8_here_8 : decode cX8_here 8 = .ok (.if_icmp .ge 30, 3) := by decide +kernel
theorem dX8_here_11 : decode cX8_here 11 = .ok (.aload_n 0, 1) := by decide +kernel
theorem dX8_here_12 : decode cX8_here 12 = .ok (.getfield 22, 3) := by decide +kernel
theorem dX8_here_15 : decode cX8_here 15 = .ok (.aload_n 0, 1) := by decide +kernel
theorem dX8_here_16 : decode cX8_here 16 = .ok (.getfield 118, 3) := by decide +kernel
theorem dX8_here_19 : decode cX8_here 19 = .ok (.iaload, 1) := by decide +kernel
theorem dX8_here_20 : decode cX8_here 20 = .ok (.bipush 32, 2) := by decide +kernel
theorem dX8_here_22 : decode cX8_here 22 = .ok (.if_icmp .ne 16, 3) := by decide +kernel
theorem dX8_here_25 : decode cX8_here 25 = .ok (.aload_n 0, 1) := by decide +kernel
theorem dX8_here_26 : decode cX8_here 26 = .ok (.dup, 1) := by decide +kernel
theorem dX8_here_27 : decode cX8_here 27 = .ok (.getfield 118, 3) := by decide +kernel
theorem dX8_here_30 : decode cX8_here 30 = .ok (.iconst 1, 1) := by decide +kernel
theorem dX8_here_31 : decode cX8_here 31 = .ok (.iadd, 1) := by decide +kernel
theorem dX8_here_32 : decode cX8_here 32 = .ok (.putfield 118, 3) := by decide +kernel
theorem dX8_here_35 : decode cX8_here 35 = .ok (.goto (-35), 3) := by decide +kernel
theorem dX8_here_38 : decode cX8_here 38 = .ok (.aload_n 0, 1) := by decide +kernel
theorem dX8_here_39 : decode cX8_here 39 = .ok (.getfield 118, 3) := by decide +kernel
theorem dX8_here_42 : decode cX8_here 42 = .ok (.aload_n 0, 1) := by decide +kernel
theorem dX8_here_43 : decode cX8_here 43 = .ok (.getfield 113, 3) := by decide +kernel
theorem dX8_here_46 : decode cX8_here 46 = .ok (.if_icmp .ge 15, 3) := by decide +kernel
theorem dX8_here_49 : decode cX8_here 49 = .ok (.aload_n 0, 1) := by decide +kernel
theorem dX8_here_50 : decode cX8_here 50 = .ok (.getfield 22, 3) := by decide +kernel
theorem dX8_here_53 : decode cX8_here 53 = .ok (.aload_n 0, 1) := by decide +kernel
theorem dX8_here_54 : decode cX8_here 54 = .ok (.getfield 118, 3) := by decide +kernel
theorem dX8_here_57 : decode cX8_here 57 = .ok (.iaload, 1) := by decide +kernel
theorem dX8_here_58 : decode cX8_here 58 = .ok (.goto 4, 3) := by decide +kernel
theorem dX8_here_61 : decode cX8_here 61 = .ok (.iconst (-1), 1) := by decide +kernel
theorem dX8_here_62 : decode cX8_here 62 = .ok (.ireturn, 1) := by decide +kernel
theorem f_m_readWord_rows : True := trivial
theorem dX8_readWord_0 : decode cX8_readWord 0 = .ok (.aload_n 0, 1) := by decide +kernel
theorem dX8_readWord_1 : decode cX8_readWord 1 = .ok (.invokevirtual 121, 3) := by decide +kernel
theorem dX8_readWord_4 : decode cX8_readWord 4 = .ok (.istore_n 1, 1) := by decide +kernel
theorem dX8_readWord_5 : decode cX8_readWord 5 = .ok (.aload_n 0, 1) := by decide +kernel
theorem dX8_readWord_6 : decode cX8_readWord 6 = .ok (.lconst 0, 1) := by decide +kernel
theorem dX8_readWord_7 : decode cX8_readWord 7 = .ok (.putfield 125, 3) := by decide +kernel
theorem dX8_readWord_10 : decode cX8_readWord 10 = .ok (.aload_n 0, 1) := by decide +kernel
theorem dX8_readWord_11 : decode cX8_readWord 11 = .ok (.aload_n 0, 1) := by decide +kernel
theorem dX8_readWord_12 : decode cX8_readWord 12 = .ok (.getfield 118, 3) := by decide +kernel
theorem dX8_readWord_15 : decode cX8_readWord 15 = .ok (.putfield 129, 3) := by decide +kernel
theorem dX8_readWord_18 : decode cX8_readWord 18 = .ok (.aload_n 0, 1) := by decide +kernel
theorem dX8_readWord_19 : decode cX8_readWord 19 = .ok (.getfield 129, 3) := by decide +kernel
theorem dX8_readWord_22 : decode cX8_readWord 22 = .ok (.aload_n 0, 1) := by decide +kernel
theorem dX8_readWord_23 : decode cX8_readWord 23 = .ok (.getfield 113, 3) := by decide +kernel
theorem dX8_readWord_26 : decode cX8_readWord 26 = .ok (.if_icmp .ge 82, 3) := by decide +kernel
theorem dX8_readWord_29 : decode cX8_readWord 29 = .ok (.aload_n 0, 1) := by decide +kernel
theorem dX8_readWord_30 : decode cX8_readWord 30 = .ok (.getfield 22, 3) := by decide +kernel
theorem dX8_readWord_33 : decode cX8_readWord 33 = .ok (.aload_n 0, 1) := by decide +kernel
theorem dX8_readWord_34 : decode cX8_readWord 34 = .ok (.getfield 129, 3) := by decide +kernel
theorem dX8_readWord_37 : decode cX8_readWord 37 = .ok (.iaload, 1) := by decide +kernel
theorem dX8_readWord_38 : decode cX8_readWord 38 = .ok (.i2l, 1) := by decide +kernel
theorem dX8_readWord_39 : decode cX8_readWord 39 = .ok (.ldc2_w 132, 3) := by decide +kernel
theorem dX8_readWord_42 : decode cX8_readWord 42 = .ok (.ldc2_w 134, 3) := by decide +kernel
theorem dX8_readWord_45 : decode cX8_readWord 45 = .ok (.invokestatic 107, 3) := by decide +kernel
theorem dX8_readWord_48 : decode cX8_readWord 48 = .ok (.ifCond .eq 60, 3) := by decide +kernel
theorem dX8_readWord_51 : decode cX8_readWord 51 = .ok (.aload_n 0, 1) := by decide +kernel
theorem dX8_readWord_52 : decode cX8_readWord 52 = .ok (.aload_n 0, 1) := by decide +kernel
theorem dX8_readWord_53 : decode cX8_readWord 53 = .ok (.getfield 125, 3) := by decide +kernel
theorem dX8_readWord_56 : decode cX8_readWord 56 = .ok (.ldc2_w 136, 3) := by decide +kernel
theorem dX8_readWord_59 : decode cX8_readWord 59 = .ok (.lcmp, 1) := by decide +kernel
theorem dX8_readWord_60 : decode cX8_readWord 60 = .ok (.ifCond .le 9, 3) := by decide +kernel
theorem dX8_readWord_63 : decode cX8_readWord 63 = .ok (.ldc2_w 138, 3) := by decide +kernel
theorem dX8_readWord_66 : decode cX8_readWord 66 = .ok (.goto 26, 3) := by decide +kernel
theorem dX8_readWord_69 : decode cX8_readWord 69 = .ok (.ldc2_w 140, 3) := by decide +kernel
theorem dX8_readWord_72 : decode cX8_readWord 72 = .ok (.aload_n 0, 1) := by decide +kernel
theorem dX8_readWord_73 : decode cX8_readWord 73 = .ok (.getfield 125, 3) := by decide +kernel
theorem dX8_readWord_76 : decode cX8_readWord 76 = .ok (.lmul, 1) := by decide +kernel
theorem dX8_readWord_77 : decode cX8_readWord 77 = .ok (.aload_n 0, 1) := by decide +kernel
theorem dX8_readWord_78 : decode cX8_readWord 78 = .ok (.getfield 22, 3) := by decide +kernel
theorem dX8_readWord_81 : decode cX8_readWord 81 = .ok (.aload_n 0, 1) := by decide +kernel
theorem dX8_readWord_82 : decode cX8_readWord 82 = .ok (.getfield 129, 3) := by decide +kernel
theorem dX8_readWord_85 : decode cX8_readWord 85 = .ok (.iaload, 1) := by decide +kernel
theorem dX8_readWord_86 : decode cX8_readWord 86 = .ok (.i2l, 1) := by decide +kernel
theorem dX8_readWord_87 : decode cX8_readWord 87 = .ok (.ladd, 1) := by decide +kernel
theorem dX8_readWord_88 : decode cX8_readWord 88 = .ok (.ldc2_w 142, 3) := by decide +kernel
theorem dX8_readWord_91 : decode cX8_readWord 91 = .ok (.lsub, 1) := by decide +kernel
theorem dX8_readWord_92 : decode cX8_readWord 92 = .ok (.putfield 125, 3) := by decide +kernel
theorem dX8_readWord_95 : decode cX8_readWord 95 = .ok (.aload_n 0, 1) := by decide +kernel
theorem dX8_readWord_96 : decode cX8_readWord 96 = .ok (.dup, 1) := by decide +kernel
theorem dX8_readWord_97 : decode cX8_readWord 97 = .ok (.getfield 129, 3) := by decide +kernel
theorem dX8_readWord_100 : decode cX8_readWord 100 = .ok (.iconst 1, 1) := by decide +kernel
theorem dX8_readWord_101 : decode cX8_readWord 101 = .ok (.iadd, 1) := by decide +kernel
theorem dX8_readWord_102 : decode cX8_readWord 102 = .ok (.putfield 129, 3) := by decide +kernel
theorem dX8_readWord_105 : decode cX8_readWord 105 = .ok (.goto (-87), 3) := by decide +kernel
theorem dX8_readWord_108 : decode cX8_readWord 108 = .ok (.return_, 1) := by decide +kernel
theorem f_m_needs_rows : True := trivial
theorem dX8_needs_0 : decode cX8_needs 0 = .ok (.aload_n 0, 1) := by decide +kernel
theorem dX8_needs_1 : decode cX8_needs 1 = .ok (.invokevirtual 156, 3) := by decide +kernel
theorem dX8_needs_4 : decode cX8_needs 4 = .ok (.aload_n 0, 1) := by decide +kernel
theorem dX8_needs_5 : decode cX8_needs 5 = .ok (.getfield 125, 3) := by decide +kernel
theorem dX8_needs_8 : decode cX8_needs 8 = .ok (.lload_n 1, 1) := by decide +kernel
theorem dX8_needs_9 : decode cX8_needs 9 = .ok (.lcmp, 1) := by decide +kernel
theorem dX8_needs_10 : decode cX8_needs 10 = .ok (.ifCond .eq 13, 3) := by decide +kernel
theorem dX8_needs_13 : decode cX8_needs 13 = .ok (.aload_n 0, 1) := by decide +kernel
theorem dX8_needs_14 : decode cX8_needs 14 = .ok (.iconst 1, 1) := by decide +kernel
theorem dX8_needs_15 : decode cX8_needs 15 = .ok (.aload_n 0, 1) := by decide +kernel
theorem dX8_needs_16 : decode cX8_needs 16 = .ok (.getfield 118, 3) := by decide +kernel
theorem dX8_needs_19 : decode cX8_needs 19 = .ok (.invokevirtual 159, 3) := by decide +kernel
theorem dX8_needs_22 : decode cX8_needs 22 = .ok (.ireturn, 1) := by decide +kernel
theorem dX8_needs_23 : decode cX8_needs 23 = .ok (.aload_n 0, 1) := by decide +kernel
theorem dX8_needs_24 : decode cX8_needs 24 = .ok (.aload_n 0, 1) := by decide +kernel
theorem dX8_needs_25 : decode cX8_needs 25 = .ok (.getfield 129, 3) := by decide +kernel
theorem dX8_needs_28 : decode cX8_needs 28 = .ok (.putfield 118, 3) := by decide +kernel
theorem dX8_needs_31 : decode cX8_needs 31 = .ok (.iconst 0, 1) := by decide +kernel
theorem dX8_needs_32 : decode cX8_needs 32 = .ok (.ireturn, 1) := by decide +kernel
theorem f_m_takeFigures_rows : True := trivial
theorem dX8_takeFigures_0 : decode cX8_takeFigures 0 = .ok (.aload_n 0, 1) := by decide +kernel
theorem dX8_takeFigures_1 : decode cX8_takeFigures 1 = .ok (.getfield 118, 3) := by decide +kernel
theorem dX8_takeFigures_4 : decode cX8_takeFigures 4 = .ok (.istore 5, 2) := by decide +kernel
theorem dX8_takeFigures_6 : decode cX8_takeFigures 6 = .ok (.aload_n 0, 1) := by decide +kernel
theorem dX8_takeFigures_7 : decode cX8_takeFigures 7 = .ok (.iconst 0, 1) := by decide +kernel
theorem dX8_takeFigures_8 : decode cX8_takeFigures 8 = .ok (.putfield 163, 3) := by decide +kernel
theorem dX8_takeFigures_11 : decode cX8_takeFigures 11 = .ok (.aload_n 0, 1) := by decide +kernel
theorem dX8_takeFigures_12 : decode cX8_takeFigures 12 = .ok (.getfield 118, 3) := by decide +kernel
theorem dX8_takeFigures_15 : decode cX8_takeFigures 15 = .ok (.aload_n 0, 1) := by decide +kernel
theorem dX8_takeFigures_16 : decode cX8_takeFigures 16 = .ok (.getfield 113, 3) := by decide +kernel
theorem dX8_takeFigures_19 : decode cX8_takeFigures 19 = .ok (.if_icmp .ge 79, 3) := by decide +kernel
theorem dX8_takeFigures_22 : decode cX8_takeFigures 22 = .ok (.aload_n 0, 1) := by decide +kernel
theorem dX8_takeFigures_23 : decode cX8_takeFigures 23 = .ok (.getfield 22, 3) := by decide +kernel
theorem dX8_takeFigures_26 : decode cX8_takeFigures 26 = .ok (.aload_n 0, 1) := by decide +kernel
theorem dX8_takeFigures_27 : decode cX8_takeFigures 27 = .ok (.getfield 118, 3) := by decide +kernel
theorem dX8_takeFigures_30 : decode cX8_takeFigures 30 = .ok (.iaload, 1) := by decide +kernel
theorem dX8_takeFigures_31 : decode cX8_takeFigures 31 = .ok (.i2l, 1) := by decide +kernel
theorem dX8_takeFigures_32 : decode cX8_takeFigures 32 = .ok (.ldc2_w 166, 3) := by decide +kernel
theorem dX8_takeFigures_35 : decode cX8_takeFigures 35 = .ok (.ldc2_w 168, 3) := by decide +kernel
theorem dX8_takeFigures_38 : decode cX8_takeFigures 38 = .ok (.invokestatic 107, 3) := by decide +kernel
theorem dX8_takeFigures_41 : decode cX8_takeFigures 41 = .ok (.ifCond .eq 57, 3) := by decide +kernel
theorem dX8_takeFigures_44 : decode cX8_takeFigures 44 = .ok (.aload_n 0, 1) := by decide +kernel
theorem dX8_takeFigures_45 : decode cX8_takeFigures 45 = .ok (.aload_n 0, 1) := by decide +kernel
theorem dX8_takeFigures_46 : decode cX8_takeFigures 46 = .ok (.getfield 163, 3) := by decide +kernel
theorem dX8_takeFigures_49 : decode cX8_takeFigures 49 = .ok (.sipush 10000, 3) := by decide +kernel
theorem dX8_takeFigures_52 : decode cX8_takeFigures 52 = .ok (.if_icmp .le 10, 3) := by decide +kernel
theorem dX8_takeFigures_55 : decode cX8_takeFigures 55 = .ok (.aload_n 0, 1) := by decide +kernel
theorem dX8_takeFigures_56 : decode cX8_takeFigures 56 = .ok (.getfield 163, 3) := by decide +kernel
theorem dX8_takeFigures_59 : decode cX8_takeFigures 59 = .ok (.goto 23, 3) := by decide +kernel
theorem dX8_takeFigures_62 : decode cX8_takeFigures 62 = .ok (.bipush 10, 2) := by decide +kernel
theorem dX8_takeFigures_64 : decode cX8_takeFigures 64 = .ok (.aload_n 0, 1) := by decide +kernel
theorem dX8_takeFigures_65 : decode cX8_takeFigures 65 = .ok (.getfield 163, 3) := by decide +kernel
theorem dX8_takeFigures_68 : decode cX8_takeFigures 68 = .ok (.imul, 1) := by decide +kernel
theorem dX8_takeFigures_69 : decode cX8_takeFigures 69 = .ok (.aload_n 0, 1) := by decide +kernel
theorem dX8_takeFigures_70 : decode cX8_takeFigures 70 = .ok (.getfield 22, 3) := by decide +kernel
theorem dX8_takeFigures_73 : decode cX8_takeFigures 73 = .ok (.aload_n 0, 1) := by decide +kernel
theorem dX8_takeFigures_74 : decode cX8_takeFigures 74 = .ok (.getfield 118, 3) := by decide +kernel
theorem dX8_takeFigures_77 : decode cX8_takeFigures 77 = .ok (.iaload, 1) := by decide +kernel
theorem dX8_takeFigures_78 : decode cX8_takeFigures 78 = .ok (.iadd, 1) := by decide +kernel
theorem dX8_takeFigures_79 : decode cX8_takeFigures 79 = .ok (.bipush 48, 2) := by decide +kernel
theorem dX8_takeFigures_81 : decode cX8_takeFigures 81 = .ok (.isub, 1) := by decide +kernel
theorem dX8_takeFigures_82 : decode cX8_takeFigures 82 = .ok (.putfield 163, 3) := by decide +kernel
theorem dX8_takeFigures_85 : decode cX8_takeFigures 85 = .ok (.aload_n 0, 1) := by decide +kernel
theorem dX8_takeFigures_86 : decode cX8_takeFigures 86 = .ok (.dup, 1) := by decide +kernel
theorem dX8_takeFigures_87 : decode cX8_takeFigures 87 = .ok (.getfield 118, 3) := by decide +kernel
theorem dX8_takeFigures_90 : decode cX8_takeFigures 90 = .ok (.iconst 1, 1) := by decide +kernel
theorem dX8_takeFigures_91 : decode cX8_takeFigures 91 = .ok (.iadd, 1) := by decide +kernel
theorem dX8_takeFigures_92 : decode cX8_takeFigures 92 = .ok (.putfield 118, 3) := by decide +kernel
theorem dX8_takeFigures_95 : decode cX8_takeFigures 95 = .ok (.goto (-84), 3) := by decide +kernel
theorem dX8_takeFigures_98 : decode cX8_takeFigures 98 = .ok (.aload_n 0, 1) := by decide +kernel
theorem dX8_takeFigures_99 : decode cX8_takeFigures 99 = .ok (.getfield 118, 3) := by decide +kernel
theorem dX8_takeFigures_102 : decode cX8_takeFigures 102 = .ok (.iload 5, 2) := by decide +kernel
theorem dX8_takeFigures_104 : decode cX8_takeFigures 104 = .ok (.if_icmp .ne 11, 3) := by decide +kernel
theorem dX8_takeFigures_107 : decode cX8_takeFigures 107 = .ok (.aload_n 0, 1) := by decide +kernel
theorem dX8_takeFigures_108 : decode cX8_takeFigures 108 = .ok (.iconst 1, 1) := by decide +kernel
theorem dX8_takeFigures_109 : decode cX8_takeFigures 109 = .ok (.iload 5, 2) := by decide +kernel
theorem dX8_takeFigures_111 : decode cX8_takeFigures 111 = .ok (.invokevirtual 159, 3) := by decide +kernel
theorem dX8_takeFigures_114 : decode cX8_takeFigures 114 = .ok (.ireturn, 1) := by decide +kernel
theorem dX8_takeFigures_115 : decode cX8_takeFigures 115 = .ok (.aload_n 0, 1) := by decide +kernel
theorem dX8_takeFigures_116 : decode cX8_takeFigures 116 = .ok (.getfield 118, 3) := by decide +kernel
theorem dX8_takeFigures_119 : decode cX8_takeFigures 119 = .ok (.iload 5, 2) := by decide +kernel
theorem dX8_takeFigures_121 : decode cX8_takeFigures 121 = .ok (.isub, 1) := by decide +kernel
theorem dX8_takeFigures_122 : decode cX8_takeFigures 122 = .ok (.istore 6, 2) := by decide +kernel
theorem dX8_takeFigures_124 : decode cX8_takeFigures 124 = .ok (.aload_n 0, 1) := by decide +kernel
theorem dX8_takeFigures_125 : decode cX8_takeFigures 125 = .ok (.iload 4, 2) := by decide +kernel
theorem dX8_takeFigures_127 : decode cX8_takeFigures 127 = .ok (.ifCond .eq 11, 3) := by decide +kernel
theorem dX8_takeFigures_130 : decode cX8_takeFigures 130 = .ok (.aload_n 0, 1) := by decide +kernel
theorem dX8_takeFigures_131 : decode cX8_takeFigures 131 = .ok (.getfield 163, 3) := by decide +kernel
theorem dX8_takeFigures_134 : decode cX8_takeFigures 134 = .ok (.ineg, 1) := by decide +kernel
theorem dX8_takeFigures_135 : decode cX8_takeFigures 135 = .ok (.goto 7, 3) := by decide +kernel
theorem dX8_takeFigures_138 : decode cX8_takeFigures 138 = .ok (.aload_n 0, 1) := by decide +kernel
theorem dX8_takeFigures_139 : decode cX8_takeFigures 139 = .ok (.getfield 163, 3) := by decide +kernel
theorem dX8_takeFigures_142 : decode cX8_takeFigures 142 = .ok (.putfield 163, 3) := by decide +kernel
theorem dX8_takeFigures_145 : decode cX8_takeFigures 145 = .ok (.iload 6, 2) := by decide +kernel
theorem dX8_takeFigures_147 : decode cX8_takeFigures 147 = .ok (.iconst 3, 1) := by decide +kernel
theorem dX8_takeFigures_148 : decode cX8_takeFigures 148 = .ok (.if_icmp .gt 18, 3) := by decide +kernel
theorem dX8_takeFigures_151 : decode cX8_takeFigures 151 = .ok (.aload_n 0, 1) := by decide +kernel
theorem dX8_takeFigures_152 : decode cX8_takeFigures 152 = .ok (.getfield 163, 3) := by decide +kernel
theorem dX8_takeFigures_155 : decode cX8_takeFigures 155 = .ok (.i2l, 1) := by decide +kernel
theorem dX8_takeFigures_156 : decode cX8_takeFigures 156 = .ok (.iload_n 2, 1) := by decide +kernel
theorem dX8_takeFigures_157 : decode cX8_takeFigures 157 = .ok (.i2l, 1) := by decide +kernel
theorem dX8_takeFigures_158 : decode cX8_takeFigures 158 = .ok (.iload_n 3, 1) := by decide +kernel
theorem dX8_takeFigures_159 : decode cX8_takeFigures 159 = .ok (.i2l, 1) := by decide +kernel
theorem dX8_takeFigures_160 : decode cX8_takeFigures 160 = .ok (.invokestatic 107, 3) := by decide +kernel
theorem dX8_takeFigures_163 : decode cX8_takeFigures 163 = .ok (.ifCond .ne 12, 3) := by decide +kernel
theorem dX8_takeFigures_166 : decode cX8_takeFigures 166 = .ok (.aload_n 0, 1) := by decide +kernel
theorem dX8_takeFigures_167 : decode cX8_takeFigures 167 = .ok (.iconst 2, 1) := by decide +kernel
theorem dX8_takeFigures_168 : decode cX8_takeFigures 168 = .ok (.iload_n 1, 1) := by decide +kernel
theorem dX8_takeFigures_169 : decode cX8_takeFigures 169 = .ok (.invokevirtual 159, 3) := by decide +kernel
theorem dX8_takeFigures_172 : decode cX8_takeFigures 172 = .ok (.goto 4, 3) := by decide +kernel
theorem dX8_takeFigures_175 : decode cX8_takeFigures 175 = .ok (.iconst 0, 1) := by decide +kernel
theorem dX8_takeFigures_176 : decode cX8_takeFigures 176 = .ok (.ireturn, 1) := by decide +kernel
theorem f_m_takeNumber_rows : True := trivial
theorem dX8_takeNumber_0 : decode cX8_takeNumber 0 = .ok (.aload_n 0, 1) := by decide +kernel
theorem dX8_takeNumber_1 : decode cX8_takeNumber 1 = .ok (.invokevirtual 121, 3) := by decide +kernel
theorem dX8_takeNumber_4 : decode cX8_takeNumber 4 = .ok (.istore_n 3, 1) := by decide +kernel
theorem dX8_takeNumber_5 : decode cX8_takeNumber 5 = .ok (.aload_n 0, 1) := by decide +kernel
theorem dX8_takeNumber_6 : decode cX8_takeNumber 6 = .ok (.aload_n 0, 1) := by decide +kernel
theorem dX8_takeNumber_7 : decode cX8_takeNumber 7 = .ok (.getfield 118, 3) := by decide +kernel
theorem dX8_takeNumber_10 : decode cX8_takeNumber 10 = .ok (.putfield 170, 3) := by decide +kernel
theorem dX8_takeNumber_13 : decode cX8_takeNumber 13 = .ok (.iload_n 3, 1) := by decide +kernel
theorem dX8_takeNumber_14 : decode cX8_takeNumber 14 = .ok (.i2l, 1) := by decide +kernel
theorem dX8_takeNumber_15 : decode cX8_takeNumber 15 = .ok (.ldc2_w 166, 3) := by decide +kernel
theorem dX8_takeNumber_18 : decode cX8_takeNumber 18 = .ok (.ldc2_w 168, 3) := by decide +kernel
theorem dX8_takeNumber_21 : decode cX8_takeNumber 21 = .ok (.invokestatic 107, 3) := by decide +kernel
theorem dX8_takeNumber_24 : decode cX8_takeNumber 24 = .ok (.ifCond .eq 17, 3) := by decide +kernel
theorem dX8_takeNumber_27 : decode cX8_takeNumber 27 = .ok (.aload_n 0, 1) := by decide +kernel
theorem dX8_takeNumber_28 : decode cX8_takeNumber 28 = .ok (.aload_n 0, 1) := by decide +kernel
theorem dX8_takeNumber_29 : decode cX8_takeNumber 29 = .ok (.getfield 170, 3) := by decide +kernel
theorem dX8_takeNumber_32 : decode cX8_takeNumber 32 = .ok (.iload_n 1, 1) := by decide +kernel
theorem dX8_takeNumber_33 : decode cX8_takeNumber 33 = .ok (.iload_n 2, 1) := by decide +kernel
theorem dX8_takeNumber_34 : decode cX8_takeNumber 34 = .ok (.iconst 0, 1) := by decide +kernel
theorem dX8_takeNumber_35 : decode cX8_takeNumber 35 = .ok (.invokevirtual 173, 3) := by decide +kernel
theorem dX8_takeNumber_38 : decode cX8_takeNumber 38 = .ok (.goto 12, 3) := by decide +kernel
theorem dX8_takeNumber_41 : decode cX8_takeNumber 41 = .ok (.aload_n 0, 1) := by decide +kernel
theorem dX8_takeNumber_42 : decode cX8_takeNumber 42 = .ok (.iconst 1, 1) := by decide +kernel
theorem dX8_takeNumber_43 : decode cX8_takeNumber 43 = .ok (.aload_n 0, 1) := by decide +kernel
theorem dX8_takeNumber_44 : decode cX8_takeNumber 44 = .ok (.getfield 118, 3) := by decide +kernel
theorem dX8_takeNumber_47 : decode cX8_takeNumber 47 = .ok (.invokevirtual 159, 3) := by decide +kernel
theorem dX8_takeNumber_50 : decode cX8_takeNumber 50 = .ok (.ireturn, 1) := by decide +kernel
theorem f_m_takeSigned_rows : True := trivial
theorem dX8_takeSigned_0 : decode cX8_takeSigned 0 = .ok (.aload_n 0, 1) := by decide +kernel
theorem dX8_takeSigned_1 : decode cX8_takeSigned 1 = .ok (.invokevirtual 121, 3) := by decide +kernel
theorem dX8_takeSigned_4 : decode cX8_takeSigned 4 = .ok (.istore_n 2, 1) := by decide +kernel
theorem dX8_takeSigned_5 : decode cX8_takeSigned 5 = .ok (.aload_n 0, 1) := by decide +kernel
theorem dX8_takeSigned_6 : decode cX8_takeSigned 6 = .ok (.aload_n 0, 1) := by decide +kernel
theorem dX8_takeSigned_7 : decode cX8_takeSigned 7 = .ok (.getfield 118, 3) := by decide +kernel
theorem dX8_takeSigned_10 : decode cX8_takeSigned 10 = .ok (.putfield 170, 3) := by decide +kernel
theorem dX8_takeSigned_13 : decode cX8_takeSigned 13 = .ok (.iload_n 2, 1) := by decide +kernel
theorem dX8_takeSigned_14 : decode cX8_takeSigned 14 = .ok (.bipush 45, 2) := by decide +kernel
theorem dX8_takeSigned_16 : decode cX8_takeSigned 16 = .ok (.if_icmp .ne 7, 3) := by decide +kernel
theorem dX8_takeSigned_19 : decode cX8_takeSigned 19 = .ok (.iconst 1, 1) := by decide +kernel
theorem dX8_takeSigned_20 : decode cX8_takeSigned 20 = .ok (.goto 4, 3) := by decide +kernel
theorem dX8_takeSigned_23 : decode cX8_takeSigned 23 = .ok (.iconst 0, 1) := by decide +kernel
theorem dX8_takeSigned_24 : decode cX8_takeSigned 24 = .ok (.istore_n 3, 1) := by decide +kernel
theorem dX8_takeSigned_25 : decode cX8_takeSigned 25 = .ok (.aload_n 0, 1) := by decide +kernel
theorem dX8_takeSigned_26 : decode cX8_takeSigned 26 = .ok (.dup, 1) := by decide +kernel
theorem dX8_takeSigned_27 : decode cX8_takeSigned 27 = .ok (.getfield 118, 3) := by decide +kernel
theorem dX8_takeSigned_30 : decode cX8_takeSigned 30 = .ok (.iload_n 3, 1) := by decide +kernel
theorem dX8_takeSigned_31 : decode cX8_takeSigned 31 = .ok (.ifCond .eq 7, 3) := by decide +kernel
theorem dX8_takeSigned_34 : decode cX8_takeSigned 34 = .ok (.iconst 1, 1) := by decide +kernel
theorem dX8_takeSigned_35 : decode cX8_takeSigned 35 = .ok (.goto 4, 3) := by decide +kernel
theorem dX8_takeSigned_38 : decode cX8_takeSigned 38 = .ok (.iconst 0, 1) := by decide +kernel
theorem dX8_takeSigned_39 : decode cX8_takeSigned 39 = .ok (.iadd, 1) := by decide +kernel
theorem dX8_takeSigned_40 : decode cX8_takeSigned 40 = .ok (.putfield 118, 3) := by decide +kernel
theorem dX8_takeSigned_43 : decode cX8_takeSigned 43 = .ok (.aload_n 0, 1) := by decide +kernel
theorem dX8_takeSigned_44 : decode cX8_takeSigned 44 = .ok (.aload_n 0, 1) := by decide +kernel
theorem dX8_takeSigned_45 : decode cX8_takeSigned 45 = .ok (.getfield 170, 3) := by decide +kernel
theorem dX8_takeSigned_48 : decode cX8_takeSigned 48 = .ok (.iload_n 1, 1) := by decide +kernel
theorem dX8_takeSigned_49 : decode cX8_takeSigned 49 = .ok (.ineg, 1) := by decide +kernel
theorem dX8_takeSigned_50 : decode cX8_takeSigned 50 = .ok (.iload_n 1, 1) := by decide +kernel
theorem dX8_takeSigned_51 : decode cX8_takeSigned 51 = .ok (.iload_n 3, 1) := by decide +kernel
theorem dX8_takeSigned_52 : decode cX8_takeSigned 52 = .ok (.invokevirtual 173, 3) := by decide +kernel
theorem dX8_takeSigned_55 : decode cX8_takeSigned 55 = .ok (.ireturn, 1) := by decide +kernel
theorem f_m_clauseOf_rows : True := trivial
theorem dX8_clauseOf_0 : decode cX8_clauseOf 0 = .ok (.bipush 99, 2) := by decide +kernel
theorem dX8_clauseOf_2 : decode cX8_clauseOf 2 = .ok (.bipush 117, 2) := by decide +kernel
theorem dX8_clauseOf_4 : decode cX8_clauseOf 4 = .ok (.bipush 114, 2) := by decide +kernel
theorem dX8_clauseOf_6 : decode cX8_clauseOf 6 = .ok (.invokestatic 148, 3) := by decide +kernel
theorem dX8_clauseOf_9 : decode cX8_clauseOf 9 = .ok (.bipush 116, 2) := by decide +kernel
theorem dX8_clauseOf_11 : decode cX8_clauseOf 11 = .ok (.bipush 97, 2) := by decide +kernel
theorem dX8_clauseOf_13 : decode cX8_clauseOf 13 = .ok (.invokestatic 152, 3) := by decide +kernel
theorem dX8_clauseOf_16 : decode cX8_clauseOf 16 = .ok (.bipush 105, 2) := by decide +kernel
theorem dX8_clauseOf_18 : decode cX8_clauseOf 18 = .ok (.bipush 110, 2) := by decide +kernel
theorem dX8_clauseOf_20 : decode cX8_clauseOf 20 = .ok (.invokestatic 152, 3) := by decide +kernel
theorem dX8_clauseOf_23 : decode cX8_clauseOf 23 = .ok (.lstore_n 1, 1) := by decide +kernel
theorem dX8_clauseOf_24 : decode cX8_clauseOf 24 = .ok (.bipush 103, 2) := by decide +kernel
theorem dX8_clauseOf_26 : decode cX8_clauseOf 26 = .ok (.bipush 97, 2) := by decide +kernel
theorem dX8_clauseOf_28 : decode cX8_clauseOf 28 = .ok (.bipush 114, 2) := by decide +kernel
theorem dX8_clauseOf_30 : decode cX8_clauseOf 30 = .ok (.invokestatic 148, 3) := by decide +kernel
theorem dX8_clauseOf_33 : decode cX8_clauseOf 33 = .ok (.bipush 97, 2) := by decide +kernel
theorem dX8_clauseOf_35 : decode cX8_clauseOf 35 = .ok (.bipush 103, 2) := by decide +kernel
theorem dX8_clauseOf_37 : decode cX8_clauseOf 37 = .ok (.invokestatic 152, 3) := by decide +kernel
theorem dX8_clauseOf_40 : decode cX8_clauseOf 40 = .ok (.bipush 101, 2) := by decide +kernel
theorem dX8_clauseOf_42 : decode cX8_clauseOf 42 = .ok (.invokestatic 144, 3) := by decide +kernel
theorem dX8_clauseOf_45 : decode cX8_clauseOf 45 = .ok (.lstore_n 3, 1) := by decide +kernel
theorem dX8_clauseOf_46 : decode cX8_clauseOf 46 = .ok (.aload_n 0, 1) := by decide +kernel
theorem dX8_clauseOf_47 : decode cX8_clauseOf 47 = .ok (.getfield 125, 3) := by decide +kernel
theorem dX8_clauseOf_50 : decode cX8_clauseOf 50 = .ok (.bipush 100, 2) := by decide +kernel
theorem dX8_clauseOf_52 : decode cX8_clauseOf 52 = .ok (.bipush 111, 2) := by decide +kernel
theorem dX8_clauseOf_54 : decode cX8_clauseOf 54 = .ok (.bipush 111, 2) := by decide +kernel
theorem dX8_clauseOf_56 : decode cX8_clauseOf 56 = .ok (.invokestatic 148, 3) := by decide +kernel
theorem dX8_clauseOf_59 : decode cX8_clauseOf 59 = .ok (.bipush 114, 2) := by decide +kernel
theorem dX8_clauseOf_61 : decode cX8_clauseOf 61 = .ok (.bipush 115, 2) := by decide +kernel
theorem dX8_clauseOf_63 : decode cX8_clauseOf 63 = .ok (.invokestatic 152, 3) := by decide +kernel
theorem dX8_clauseOf_66 : decode cX8_clauseOf 66 = .ok (.lcmp, 1) := by decide +kernel
theorem dX8_clauseOf_67 : decode cX8_clauseOf 67 = .ok (.ifCond .ne 8, 3) := by decide +kernel
theorem dX8_clauseOf_70 : decode cX8_clauseOf 70 = .ok (.bipush 9, 2) := by decide +kernel
theorem dX8_clauseOf_72 : decode cX8_clauseOf 72 = .ok (.goto 86, 3) := by decide +kernel
theorem dX8_clauseOf_75 : decode cX8_clauseOf 75 = .ok (.aload_n 0, 1) := by decide +kernel
theorem dX8_clauseOf_76 : decode cX8_clauseOf 76 = .ok (.getfield 125, 3) := by decide +kernel
theorem dX8_clauseOf_79 : decode cX8_clauseOf 79 = .ok (.bipush 97, 2) := by decide +kernel
theorem dX8_clauseOf_81 : decode cX8_clauseOf 81 = .ok (.bipush 108, 2) := by decide +kernel
theorem dX8_clauseOf_83 : decode cX8_clauseOf 83 = .ok (.bipush 105, 2) := by decide +kernel
theorem dX8_clauseOf_85 : decode cX8_clauseOf 85 = .ok (.invokestatic 148, 3) := by decide +kernel
theorem dX8_clauseOf_88 : decode cX8_clauseOf 88 = .ok (.bipush 107, 2) := by decide +kernel
theorem dX8_clauseOf_90 : decode cX8_clauseOf 90 = .ok (.bipush 101, 2) := by decide +kernel
theorem dX8_clauseOf_92 : decode cX8_clauseOf 92 = .ok (.invokestatic 152, 3) := by decide +kernel
theorem dX8_clauseOf_95 : decode cX8_clauseOf 95 = .ok (.lcmp, 1) := by decide +kernel
theorem dX8_clauseOf_96 : decode cX8_clauseOf 96 = .ok (.ifCond .ne 7, 3) := by decide +kernel
theorem dX8_clauseOf_99 : decode cX8_clauseOf 99 = .ok (.iconst 0, 1) := by decide +kernel
theorem dX8_clauseOf_100 : decode cX8_clauseOf 100 = .ok (.goto 58, 3) := by decide +kernel
theorem dX8_clauseOf_103 : decode cX8_clauseOf 103 = .ok (.aload_n 0, 1) := by decide +kernel
theorem dX8_clauseOf_104 : decode cX8_clauseOf 104 = .ok (.getfield 125, 3) := by decide +kernel
theorem dX8_clauseOf_107 : decode cX8_clauseOf 107 = .ok (.bipush 119, 2) := by decide +kernel
theorem dX8_clauseOf_109 : decode cX8_clauseOf 109 = .ok (.bipush 97, 2) := by decide +kernel
theorem dX8_clauseOf_111 : decode cX8_clauseOf 111 = .ok (.bipush 108, 2) := by decide +kernel
theorem dX8_clauseOf_113 : decode cX8_clauseOf 113 = .ok (.invokestatic 148, 3) := by decide +kernel
theorem dX8_clauseOf_116 : decode cX8_clauseOf 116 = .ok (.bipush 107, 2) := by decide +kernel
theorem dX8_clauseOf_118 : decode cX8_clauseOf 118 = .ok (.invokestatic 144, 3) := by decide +kernel
theorem dX8_clauseOf_121 : decode cX8_clauseOf 121 = .ok (.lcmp, 1) := by decide +kernel
theorem dX8_clauseOf_122 : decode cX8_clauseOf 122 = .ok (.ifCond .ne 7, 3) := by decide +kernel
theorem dX8_clauseOf_125 : decode cX8_clauseOf 125 = .ok (.iconst 1, 1) := by decide +kernel
theorem dX8_clauseOf_126 : decode cX8_clauseOf 126 = .ok (.goto 32, 3) := by decide +kernel
theorem dX8_clauseOf_129 : decode cX8_clauseOf 129 = .ok (.aload_n 0, 1) := by decide +kernel
theorem dX8_clauseOf_130 : decode cX8_clauseOf 130 = .ok (.getfield 125, 3) := by decide +kernel
theorem dX8_clauseOf_133 : decode cX8_clauseOf 133 = .ok (.bipush 100, 2) := by decide +kernel
theorem dX8_clauseOf_135 : decode cX8_clauseOf 135 = .ok (.bipush 114, 2) := by decide +kernel
theorem dX8_clauseOf_137 : decode cX8_clauseOf 137 = .ok (.bipush 105, 2) := by decide +kernel
theorem dX8_clauseOf_139 : decode cX8_clauseOf 139 = .ok (.invokestatic 148, 3) := by decide +kernel
theorem dX8_clauseOf_142 : decode cX8_clauseOf 142 = .ok (.bipush 118, 2) := by decide +kernel
theorem dX8_clauseOf_144 : decode cX8_clauseOf 144 = .ok (.bipush 101, 2) := by decide +kernel
theorem dX8_clauseOf_146 : decode cX8_clauseOf 146 = .ok (.invokestatic 152, 3) := by decide +kernel
theorem dX8_clauseOf_149 : decode cX8_clauseOf 149 = .ok (.lcmp, 1) := by decide +kernel
theorem dX8_clauseOf_150 : decode cX8_clauseOf 150 = .ok (.ifCond .ne 7, 3) := by decide +kernel
theorem dX8_clauseOf_153 : decode cX8_clauseOf 153 = .ok (.iconst 2, 1) := by decide +kernel
theorem dX8_clauseOf_154 : decode cX8_clauseOf 154 = .ok (.goto 4, 3) := by decide +kernel
theorem dX8_clauseOf_157 : decode cX8_clauseOf 157 = .ok (.iconst (-1), 1) := by decide +kernel
theorem dX8_clauseOf_158 : decode cX8_clauseOf 158 = .ok (.istore 5, 2) := by decide +kernel
theorem dX8_clauseOf_160 : decode cX8_clauseOf 160 = .ok (.aload_n 0, 1) := by decide +kernel
theorem dX8_clauseOf_161 : decode cX8_clauseOf 161 = .ok (.getfield 125, 3) := by decide +kernel
theorem dX8_clauseOf_164 : decode cX8_clauseOf 164 = .ok (.bipush 108, 2) := by decide +kernel
theorem dX8_clauseOf_166 : decode cX8_clauseOf 166 = .ok (.bipush 97, 2) := by decide +kernel
theorem dX8_clauseOf_168 : decode cX8_clauseOf 168 = .ok (.bipush 116, 2) := by decide +kernel
theorem dX8_clauseOf_170 : decode cX8_clauseOf 170 = .ok (.invokestatic 148, 3) := by decide +kernel
theorem dX8_clauseOf_173 : decode cX8_clauseOf 173 = .ok (.bipush 101, 2) := by decide +kernel
theorem dX8_clauseOf_175 : decode cX8_clauseOf 175 = .ok (.invokestatic 144, 3) := by decide +kernel
theorem dX8_clauseOf_178 : decode cX8_clauseOf 178 = .ok (.lcmp, 1) := by decide +kernel
theorem dX8_clauseOf_179 : decode cX8_clauseOf 179 = .ok (.ifCond .ne 7, 3) := by decide +kernel
theorem dX8_clauseOf_182 : decode cX8_clauseOf 182 = .ok (.iconst 3, 1) := by decide +kernel
theorem dX8_clauseOf_183 : decode cX8_clauseOf 183 = .ok (.goto 81, 3) := by decide +kernel
theorem dX8_clauseOf_186 : decode cX8_clauseOf 186 = .ok (.aload_n 0, 1) := by decide +kernel
theorem dX8_clauseOf_187 : decode cX8_clauseOf 187 = .ok (.getfield 125, 3) := by decide +kernel
theorem dX8_clauseOf_190 : decode cX8_clauseOf 190 = .ok (.lload_n 1, 1) := by decide +kernel
theorem dX8_clauseOf_191 : decode cX8_clauseOf 191 = .ok (.lcmp, 1) := by decide +kernel
theorem dX8_clauseOf_192 : decode cX8_clauseOf 192 = .ok (.ifCond .ne 7, 3) := by decide +kernel
theorem dX8_clauseOf_195 : decode cX8_clauseOf 195 = .ok (.iconst 4, 1) := by decide +kernel
theorem dX8_clauseOf_196 : decode cX8_clauseOf 196 = .ok (.goto 68, 3) := by decide +kernel
theorem dX8_clauseOf_199 : decode cX8_clauseOf 199 = .ok (.aload_n 0, 1) := by decide +kernel
theorem dX8_clauseOf_200 : decode cX8_clauseOf 200 = .ok (.getfield 125, 3) := by decide +kernel
theorem dX8_clauseOf_203 : decode cX8_clauseOf 203 = .ok (.bipush 115, 2) := by decide +kernel
theorem dX8_clauseOf_205 : decode cX8_clauseOf 205 = .ok (.bipush 101, 2) := by decide +kernel
theorem dX8_clauseOf_207 : decode cX8_clauseOf 207 = .ok (.bipush 101, 2) := by decide +kernel
theorem dX8_clauseOf_209 : decode cX8_clauseOf 209 = .ok (.invokestatic 148, 3) := by decide +kernel
theorem dX8_clauseOf_212 : decode cX8_clauseOf 212 = .ok (.lcmp, 1) := by decide +kernel
theorem dX8_clauseOf_213 : decode cX8_clauseOf 213 = .ok (.ifCond .ne 7, 3) := by decide +kernel
theorem dX8_clauseOf_216 : decode cX8_clauseOf 216 = .ok (.iconst 5, 1) := by decide +kernel
theorem dX8_clauseOf_217 : decode cX8_clauseOf 217 = .ok (.goto 47, 3) := by decide +kernel
theorem dX8_clauseOf_220 : decode cX8_clauseOf 220 = .ok (.aload_n 0, 1) := by decide +kernel
theorem dX8_clauseOf_221 : decode cX8_clauseOf 221 = .ok (.getfield 125, 3) := by decide +kernel
theorem dX8_clauseOf_224 : decode cX8_clauseOf 224 = .ok (.bipush 114, 2) := by decide +kernel
theorem dX8_clauseOf_226 : decode cX8_clauseOf 226 = .ok (.bipush 111, 2) := by decide +kernel
theorem dX8_clauseOf_228 : decode cX8_clauseOf 228 = .ok (.bipush 117, 2) := by decide +kernel
theorem dX8_clauseOf_230 : decode cX8_clauseOf 230 = .ok (.invokestatic 148, 3) := by decide +kernel
theorem dX8_clauseOf_233 : decode cX8_clauseOf 233 = .ok (.bipush 110, 2) := by decide +kernel
theorem dX8_clauseOf_235 : decode cX8_clauseOf 235 = .ok (.bipush 100, 2) := by decide +kernel
theorem dX8_clauseOf_237 : decode cX8_clauseOf 237 = .ok (.invokestatic 152, 3) := by decide +kernel
theorem dX8_clauseOf_240 : decode cX8_clauseOf 240 = .ok (.lcmp, 1) := by decide +kernel
theorem dX8_clauseOf_241 : decode cX8_clauseOf 241 = .ok (.ifCond .ne 8, 3) := by decide +kernel
theorem dX8_clauseOf_244 : decode cX8_clauseOf 244 = .ok (.bipush 6, 2) := by decide +kernel
theorem dX8_clauseOf_246 : decode cX8_clauseOf 246 = .ok (.goto 18, 3) := by decide +kernel
theorem dX8_clauseOf_249 : decode cX8_clauseOf 249 = .ok (.aload_n 0, 1) := by decide +kernel
theorem dX8_clauseOf_250 : decode cX8_clauseOf 250 = .ok (.getfield 125, 3) := by decide +kernel
theorem dX8_clauseOf_253 : decode cX8_clauseOf 253 = .ok (.lload_n 3, 1) := by decide +kernel
theorem dX8_clauseOf_254 : decode cX8_clauseOf 254 = .ok (.lcmp, 1) := by decide +kernel
theorem dX8_clauseOf_255 : decode cX8_clauseOf 255 = .ok (.ifCond .ne 8, 3) := by decide +kernel
theorem dX8_clauseOf_258 : decode cX8_clauseOf 258 = .ok (.bipush 8, 2) := by decide +kernel
theorem dX8_clauseOf_260 : decode cX8_clauseOf 260 = .ok (.goto 4, 3) := by decide +kernel
theorem dX8_clauseOf_263 : decode cX8_clauseOf 263 = .ok (.iconst (-1), 1) := by decide +kernel
theorem dX8_clauseOf_264 : decode cX8_clauseOf 264 = .ok (.istore 6, 2) := by decide +kernel
theorem dX8_clauseOf_266 : decode cX8_clauseOf 266 = .ok (.iload 5, 2) := by decide +kernel
theorem dX8_clauseOf_268 : decode cX8_clauseOf 268 = .ok (.ifCond .lt 8, 3) := by decide +kernel
theorem dX8_clauseOf_271 : decode cX8_clauseOf 271 = .ok (.iload 5, 2) := by decide +kernel
theorem dX8_clauseOf_273 : decode cX8_clauseOf 273 = .ok (.goto 5, 3) := by decide +kernel
theorem dX8_clauseOf_276 : decode cX8_clauseOf 276 = .ok (.iload 6, 2) := by decide +kernel
theorem dX8_clauseOf_278 : decode cX8_clauseOf 278 = .ok (.ireturn, 1) := by decide +kernel
theorem f_m_bare_rows : True := trivial
theorem dX8_bare_0 : decode cX8_bare 0 = .ok (.aload_n 0, 1) := by decide +kernel
theorem dX8_bare_1 : decode cX8_bare 1 = .ok (.iconst 0, 1) := by decide +kernel
theorem dX8_bare_2 : decode cX8_bare 2 = .ok (.putfield 177, 3) := by decide +kernel
theorem dX8_bare_5 : decode cX8_bare 5 = .ok (.aload_n 0, 1) := by decide +kernel
theorem dX8_bare_6 : decode cX8_bare 6 = .ok (.iconst 0, 1) := by decide +kernel
theorem dX8_bare_7 : decode cX8_bare 7 = .ok (.putfield 180, 3) := by decide +kernel
theorem dX8_bare_10 : decode cX8_bare 10 = .ok (.aload_n 0, 1) := by decide +kernel
theorem dX8_bare_11 : decode cX8_bare 11 = .ok (.getfield 35, 3) := by decide +kernel
theorem dX8_bare_14 : decode cX8_bare 14 = .ok (.iconst 0, 1) := by decide +kernel
theorem dX8_bare_15 : decode cX8_bare 15 = .ok (.iconst 0, 1) := by decide +kernel
theorem dX8_bare_16 : decode cX8_bare 16 = .ok (.iastore, 1) := by decide +kernel
theorem dX8_bare_17 : decode cX8_bare 17 = .ok (.aload_n 0, 1) := by decide +kernel
theorem dX8_bare_18 : decode cX8_bare 18 = .ok (.getfield 35, 3) := by decide +kernel
theorem dX8_bare_21 : decode cX8_bare 21 = .ok (.iconst 1, 1) := by decide +kernel
theorem dX8_bare_22 : decode cX8_bare 22 = .ok (.iconst 2, 1) := by decide +kernel
theorem dX8_bare_23 : decode cX8_bare 23 = .ok (.iastore, 1) := by decide +kernel
theorem dX8_bare_24 : decode cX8_bare 24 = .ok (.aload_n 0, 1) := by decide +kernel
theorem dX8_bare_25 : decode cX8_bare 25 = .ok (.getfield 35, 3) := by decide +kernel
theorem dX8_bare_28 : decode cX8_bare 28 = .ok (.iconst 2, 1) := by decide +kernel
theorem dX8_bare_29 : decode cX8_bare 29 = .ok (.iconst 1, 1) := by decide +kernel
theorem dX8_bare_30 : decode cX8_bare 30 = .ok (.iastore, 1) := by decide +kernel
theorem dX8_bare_31 : decode cX8_bare 31 = .ok (.aload_n 0, 1) := by decide +kernel
theorem dX8_bare_32 : decode cX8_bare 32 = .ok (.getfield 35, 3) := by decide +kernel
theorem dX8_bare_35 : decode cX8_bare 35 = .ok (.iconst 3, 1) := by decide +kernel
theorem dX8_bare_36 : decode cX8_bare 36 = .ok (.iconst 5, 1) := by decide +kernel
theorem dX8_bare_37 : decode cX8_bare 37 = .ok (.iastore, 1) := by decide +kernel
theorem dX8_bare_38 : decode cX8_bare 38 = .ok (.aload_n 0, 1) := by decide +kernel
theorem dX8_bare_39 : decode cX8_bare 39 = .ok (.getfield 35, 3) := by decide +kernel
theorem dX8_bare_42 : decode cX8_bare 42 = .ok (.iconst 4, 1) := by decide +kernel
theorem dX8_bare_43 : decode cX8_bare 43 = .ok (.bipush 30, 2) := by decide +kernel
theorem dX8_bare_45 : decode cX8_bare 45 = .ok (.iastore, 1) := by decide +kernel
theorem dX8_bare_46 : decode cX8_bare 46 = .ok (.aload_n 0, 1) := by decide +kernel
theorem dX8_bare_47 : decode cX8_bare 47 = .ok (.getfield 35, 3) := by decide +kernel
theorem dX8_bare_50 : decode cX8_bare 50 = .ok (.iconst 5, 1) := by decide +kernel
theorem dX8_bare_51 : decode cX8_bare 51 = .ok (.iconst 1, 1) := by decide +kernel
theorem dX8_bare_52 : decode cX8_bare 52 = .ok (.iastore, 1) := by decide +kernel
theorem dX8_bare_53 : decode cX8_bare 53 = .ok (.aload_n 0, 1) := by decide +kernel
theorem dX8_bare_54 : decode cX8_bare 54 = .ok (.getfield 35, 3) := by decide +kernel
theorem dX8_bare_57 : decode cX8_bare 57 = .ok (.bipush 6, 2) := by decide +kernel
theorem dX8_bare_59 : decode cX8_bare 59 = .ok (.bipush 10, 2) := by decide +kernel
theorem dX8_bare_61 : decode cX8_bare 61 = .ok (.iastore, 1) := by decide +kernel
theorem dX8_bare_62 : decode cX8_bare 62 = .ok (.aload_n 0, 1) := by decide +kernel
theorem dX8_bare_63 : decode cX8_bare 63 = .ok (.getfield 35, 3) := by decide +kernel
theorem dX8_bare_66 : decode cX8_bare 66 = .ok (.bipush 7, 2) := by decide +kernel
theorem dX8_bare_68 : decode cX8_bare 68 = .ok (.iconst 0, 1) := by decide +kernel
theorem dX8_bare_69 : decode cX8_bare 69 = .ok (.iastore, 1) := by decide +kernel
theorem dX8_bare_70 : decode cX8_bare 70 = .ok (.aload_n 0, 1) := by decide +kernel
theorem dX8_bare_71 : decode cX8_bare 71 = .ok (.getfield 35, 3) := by decide +kernel
theorem dX8_bare_74 : decode cX8_bare 74 = .ok (.bipush 8, 2) := by decide +kernel
theorem dX8_bare_76 : decode cX8_bare 76 = .ok (.sipush 200, 3) := by decide +kernel
theorem dX8_bare_79 : decode cX8_bare 79 = .ok (.iastore, 1) := by decide +kernel
theorem dX8_bare_80 : decode cX8_bare 80 = .ok (.return_, 1) := by decide +kernel
theorem f_m_takeDoors_rows : True := trivial
theorem dX8_takeDoors_0 : decode cX8_takeDoors 0 = .ok (.aload_n 0, 1) := by decide +kernel
theorem dX8_takeDoors_1 : decode cX8_takeDoors 1 = .ok (.iconst 1, 1) := by decide +kernel
theorem dX8_takeDoors_2 : decode cX8_takeDoors 2 = .ok (.bipush 24, 2) := by decide +kernel
theorem dX8_takeDoors_4 : decode cX8_takeDoors 4 = .ok (.invokevirtual 183, 3) := by decide +kernel
theorem dX8_takeDoors_7 : decode cX8_takeDoors 7 = .ok (.istore_n 1, 1) := by decide +kernel
theorem dX8_takeDoors_8 : decode cX8_takeDoors 8 = .ok (.aload_n 0, 1) := by decide +kernel
theorem dX8_takeDoors_9 : decode cX8_takeDoors 9 = .ok (.getfield 163, 3) := by decide +kernel
theorem dX8_takeDoors_12 : decode cX8_takeDoors 12 = .ok (.istore_n 2, 1) := by decide +kernel
theorem dX8_takeDoors_13 : decode cX8_takeDoors 13 = .ok (.iload_n 1, 1) := by decide +kernel
theorem dX8_takeDoors_14 : decode cX8_takeDoors 14 = .ok (.ifCond .ne 24, 3) := by decide +kernel
theorem dX8_takeDoors_17 : decode cX8_takeDoors 17 = .ok (.aload_n 0, 1) := by decide +kernel
theorem dX8_takeDoors_18 : decode cX8_takeDoors 18 = .ok (.getfield 177, 3) := by decide +kernel
theorem dX8_takeDoors_21 : decode cX8_takeDoors 21 = .ok (.iload_n 2, 1) := by decide +kernel
theorem dX8_takeDoors_22 : decode cX8_takeDoors 22 = .ok (.iadd, 1) := by decide +kernel
theorem dX8_takeDoors_23 : decode cX8_takeDoors 23 = .ok (.bipush 24, 2) := by decide +kernel
theorem dX8_takeDoors_25 : decode cX8_takeDoors 25 = .ok (.if_icmp .le 13, 3) := by decide +kernel
theorem dX8_takeDoors_28 : decode cX8_takeDoors 28 = .ok (.aload_n 0, 1) := by decide +kernel
theorem dX8_takeDoors_29 : decode cX8_takeDoors 29 = .ok (.iconst 4, 1) := by decide +kernel
theorem dX8_takeDoors_30 : decode cX8_takeDoors 30 = .ok (.aload_n 0, 1) := by decide +kernel
theorem dX8_takeDoors_31 : decode cX8_takeDoors 31 = .ok (.getfield 170, 3) := by decide +kernel
theorem dX8_takeDoors_34 : decode cX8_takeDoors 34 = .ok (.invokevirtual 159, 3) := by decide +kernel
theorem dX8_takeDoors_37 : decode cX8_takeDoors 37 = .ok (.istore_n 1, 1) := by decide +kernel
theorem dX8_takeDoors_38 : decode cX8_takeDoors 38 = .ok (.iload_n 1, 1) := by decide +kernel
theorem dX8_takeDoors_39 : decode cX8_takeDoors 39 = .ok (.ifCond .le 7, 3) := by decide +kernel
theorem dX8_takeDoors_42 : decode cX8_takeDoors 42 = .ok (.iload_n 1, 1) := by decide +kernel
theorem dX8_takeDoors_43 : decode cX8_takeDoors 43 = .ok (.goto 21, 3) := by decide +kernel
theorem dX8_takeDoors_46 : decode cX8_takeDoors 46 = .ok (.aload_n 0, 1) := by decide +kernel
theorem dX8_takeDoors_47 : decode cX8_takeDoors 47 = .ok (.bipush 102, 2) := by decide +kernel
theorem dX8_takeDoors_49 : decode cX8_takeDoors 49 = .ok (.bipush 114, 2) := by decide +kernel
theorem dX8_takeDoors_51 : decode cX8_takeDoors 51 = .ok (.bipush 101, 2) := by decide +kernel
theorem dX8_takeDoors_53 : decode cX8_takeDoors 53 = .ok (.invokestatic 148, 3) := by decide +kernel
theorem dX8_takeDoors_56 : decode cX8_takeDoors 56 = .ok (.bipush 101, 2) := by decide +kernel
theorem dX8_takeDoors_58 : decode cX8_takeDoors 58 = .ok (.invokestatic 144, 3) := by decide +kernel
theorem dX8_takeDoors_61 : decode cX8_takeDoors 61 = .ok (.invokevirtual 186, 3) := by decide +kernel
theorem dX8_takeDoors_64 : decode cX8_takeDoors 64 = .ok (.istore_n 1, 1) := by decide +kernel
theorem dX8_takeDoors_65 : decode cX8_takeDoors 65 = .ok (.iload_n 1, 1) := by decide +kernel
theorem dX8_takeDoors_66 : decode cX8_takeDoors 66 = .ok (.ifCond .le 7, 3) := by decide +kernel
theorem dX8_takeDoors_69 : decode cX8_takeDoors 69 = .ok (.iload_n 1, 1) := by decide +kernel
theorem dX8_takeDoors_70 : decode cX8_takeDoors 70 = .ok (.goto 10, 3) := by decide +kernel
theorem dX8_takeDoors_73 : decode cX8_takeDoors 73 = .ok (.aload_n 0, 1) := by decide +kernel
theorem dX8_takeDoors_74 : decode cX8_takeDoors 74 = .ok (.iconst 0, 1) := by decide +kernel
theorem dX8_takeDoors_75 : decode cX8_takeDoors 75 = .ok (.bipush 100, 2) := by decide +kernel
theorem dX8_takeDoors_77 : decode cX8_takeDoors 77 = .ok (.invokevirtual 183, 3) := by decide +kernel
theorem dX8_takeDoors_80 : decode cX8_takeDoors 80 = .ok (.istore_n 1, 1) := by decide +kernel
theorem dX8_takeDoors_81 : decode cX8_takeDoors 81 = .ok (.aload_n 0, 1) := by decide +kernel
theorem dX8_takeDoors_82 : decode cX8_takeDoors 82 = .ok (.getfield 163, 3) := by decide +kernel
theorem dX8_takeDoors_85 : decode cX8_takeDoors 85 = .ok (.istore_n 3, 1) := by decide +kernel
theorem dX8_takeDoors_86 : decode cX8_takeDoors 86 = .ok (.iload_n 1, 1) := by decide +kernel
theorem dX8_takeDoors_87 : decode cX8_takeDoors 87 = .ok (.ifCond .le 7, 3) := by decide +kernel
theorem dX8_takeDoors_90 : decode cX8_takeDoors 90 = .ok (.iload_n 1, 1) := by decide +kernel
theorem dX8_takeDoors_91 : decode cX8_takeDoors 91 = .ok (.goto 23, 3) := by decide +kernel
theorem dX8_takeDoors_94 : decode cX8_takeDoors 94 = .ok (.aload_n 0, 1) := by decide +kernel
theorem dX8_takeDoors_95 : decode cX8_takeDoors 95 = .ok (.bipush 112, 2) := by decide +kernel
theorem dX8_takeDoors_97 : decode cX8_takeDoors 97 = .ok (.bipush 114, 2) := by decide +kernel
theorem dX8_takeDoors_99 : decode cX8_takeDoors 99 = .ok (.bipush 105, 2) := by decide +kernel
theorem dX8_takeDoors_101 : decode cX8_takeDoors 101 = .ok (.invokestatic 148, 3) := by decide +kernel
theorem dX8_takeDoors_104 : decode cX8_takeDoors 104 = .ok (.bipush 99, 2) := by decide +kernel
theorem dX8_takeDoors_106 : decode cX8_takeDoors 106 = .ok (.bipush 101, 2) := by decide +kernel
theorem dX8_takeDoors_108 : decode cX8_takeDoors 108 = .ok (.invokestatic 152, 3) := by decide +kernel
theorem dX8_takeDoors_111 : decode cX8_takeDoors 111 = .ok (.invokevirtual 186, 3) := by decide +kernel
theorem dX8_takeDoors_114 : decode cX8_takeDoors 114 = .ok (.istore_n 1, 1) := by decide +kernel
theorem dX8_takeDoors_115 : decode cX8_takeDoors 115 = .ok (.iload_n 1, 1) := by decide +kernel
theorem dX8_takeDoors_116 : decode cX8_takeDoors 116 = .ok (.ifCond .le 7, 3) := by decide +kernel
theorem dX8_takeDoors_119 : decode cX8_takeDoors 119 = .ok (.iload_n 1, 1) := by decide +kernel
theorem dX8_takeDoors_120 : decode cX8_takeDoors 120 = .ok (.goto 11, 3) := by decide +kernel
theorem dX8_takeDoors_123 : decode cX8_takeDoors 123 = .ok (.aload_n 0, 1) := by decide +kernel
theorem dX8_takeDoors_124 : decode cX8_takeDoors 124 = .ok (.iconst 0, 1) := by decide +kernel
theorem dX8_takeDoors_125 : decode cX8_takeDoors 125 = .ok (.sipush 999, 3) := by decide +kernel
theorem dX8_takeDoors_128 : decode cX8_takeDoors 128 = .ok (.invokevirtual 183, 3) := by decide +kernel
theorem dX8_takeDoors_131 : decode cX8_takeDoors 131 = .ok (.istore_n 1, 1) := by decide +kernel
theorem dX8_takeDoors_132 : decode cX8_takeDoors 132 = .ok (.iconst 0, 1) := by decide +kernel
theorem dX8_takeDoors_133 : decode cX8_takeDoors 133 = .ok (.istore 4, 2) := by decide +kernel
theorem dX8_takeDoors_135 : decode cX8_takeDoors 135 = .ok (.iload 4, 2) := by decide +kernel
theorem dX8_takeDoors_137 : decode cX8_takeDoors 137 = .ok (.iload_n 2, 1) := by decide +kernel
theorem dX8_takeDoors_138 : decode cX8_takeDoors 138 = .ok (.if_icmp .ge 46, 3) := by decide +kernel
theorem dX8_takeDoors_141 : decode cX8_takeDoors 141 = .ok (.iload_n 1, 1) := by decide +kernel
theorem dX8_takeDoors_142 : decode cX8_takeDoors 142 = .ok (.ifCond .ne 42, 3) := by decide +kernel
theorem dX8_takeDoors_145 : decode cX8_takeDoors 145 = .ok (.aload_n 0, 1) := by decide +kernel
theorem dX8_takeDoors_146 : decode cX8_takeDoors 146 = .ok (.getfield 29, 3) := by decide +kernel
theorem dX8_takeDoors_149 : decode cX8_takeDoors 149 = .ok (.aload_n 0, 1) := by decide +kernel
theorem dX8_takeDoors_150 : decode cX8_takeDoors 150 = .ok (.getfield 177, 3) := by decide +kernel
theorem dX8_takeDoors_153 : decode cX8_takeDoors 153 = .ok (.iload_n 3, 1) := by decide +kernel
theorem dX8_takeDoors_154 : decode cX8_takeDoors 154 = .ok (.iastore, 1) := by decide +kernel
theorem dX8_takeDoors_155 : decode cX8_takeDoors 155 = .ok (.aload_n 0, 1) := by decide +kernel
theorem dX8_takeDoors_156 : decode cX8_takeDoors 156 = .ok (.getfield 32, 3) := by decide +kernel
theorem dX8_takeDoors_159 : decode cX8_takeDoors 159 = .ok (.aload_n 0, 1) := by decide +kernel
theorem dX8_takeDoors_160 : decode cX8_takeDoors 160 = .ok (.getfield 177, 3) := by decide +kernel
theorem dX8_takeDoors_163 : decode cX8_takeDoors 163 = .ok (.aload_n 0, 1) := by decide +kernel
theorem dX8_takeDoors_164 : decode cX8_takeDoors 164 = .ok (.getfield 163, 3) := by decide +kernel
theorem dX8_takeDoors_167 : decode cX8_takeDoors 167 = .ok (.iastore, 1) := by decide +kernel
theorem dX8_takeDoors_168 : decode cX8_takeDoors 168 = .ok (.aload_n 0, 1) := by decide +kernel
theorem dX8_takeDoors_169 : decode cX8_takeDoors 169 = .ok (.dup, 1) := by decide +kernel
theorem dX8_takeDoors_170 : decode cX8_takeDoors 170 = .ok (.getfield 177, 3) := by decide +kernel
theorem dX8_takeDoors_173 : decode cX8_takeDoors 173 = .ok (.iconst 1, 1) := by decide +kernel
theorem dX8_takeDoors_174 : decode cX8_takeDoors 174 = .ok (.iadd, 1) := by decide +kernel
theorem dX8_takeDoors_175 : decode cX8_takeDoors 175 = .ok (.putfield 177, 3) := by decide +kernel
theorem dX8_takeDoors_178 : decode cX8_takeDoors 178 = .ok (.iinc 4 1, 3) := by decide +kernel
theorem dX8_takeDoors_181 : decode cX8_takeDoors 181 = .ok (.goto (-46), 3) := by decide +kernel
theorem dX8_takeDoors_184 : decode cX8_takeDoors 184 = .ok (.iload_n 1, 1) := by decide +kernel
theorem dX8_takeDoors_185 : decode cX8_takeDoors 185 = .ok (.ireturn, 1) := by decide +kernel

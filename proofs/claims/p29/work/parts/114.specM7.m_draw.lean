theorem f_m_draw_rows : True := trivial
theorem dX8_draw_0 : decode cX8_draw 0 = .ok (.aload_n 0, 1) := by decide +kernel
theorem dX8_draw_1 : decode cX8_draw 1 = .ok (.aload_n 0, 1) := by decide +kernel
theorem dX8_draw_2 : decode cX8_draw 2 = .ok (.getfield 374, 3) := by decide +kernel
theorem dX8_draw_5 : decode cX8_draw 5 = .ok (.i2l, 1) := by decide +kernel
theorem dX8_draw_6 : decode cX8_draw 6 = .ok (.ldc2_w 377, 3) := by decide +kernel
theorem dX8_draw_9 : decode cX8_draw 9 = .ok (.lmul, 1) := by decide +kernel
theorem dX8_draw_10 : decode cX8_draw 10 = .ok (.ldc2_w 379, 3) := by decide +kernel
theorem dX8_draw_13 : decode cX8_draw 13 = .ok (.ladd, 1) := by decide +kernel
theorem dX8_draw_14 : decode cX8_draw 14 = .ok (.ldc2_w 381, 3) := by decide +kernel
theorem dX8_draw_17 : decode cX8_draw 17 = .ok (.lrem, 1) := by decide +kernel
theorem dX8_draw_18 : decode cX8_draw 18 = .ok (.l2i, 1) := by decide +kernel
theorem dX8_draw_19 : decode cX8_draw 19 = .ok (.putfield 374, 3) := by decide +kernel
theorem dX8_draw_22 : decode cX8_draw 22 = .ok (.aload_n 0, 1) := by decide +kernel
theorem dX8_draw_23 : decode cX8_draw 23 = .ok (.getfield 374, 3) := by decide +kernel
theorem dX8_draw_26 : decode cX8_draw 26 = .ok (.ldc_w 383, 3) := by decide +kernel
theorem dX8_draw_29 : decode cX8_draw 29 = .ok (.idiv, 1) := by decide +kernel
theorem dX8_draw_30 : decode cX8_draw 30 = .ok (.bipush 100, 2) := by decide +kernel
theorem dX8_draw_32 : decode cX8_draw 32 = .ok (.irem, 1) := by decide +kernel
theorem dX8_draw_33 : decode cX8_draw 33 = .ok (.ireturn, 1) := by decide +kernel
theorem f_m_bar_rows : True := trivial
theorem dX8_bar_0 : decode cX8_bar 0 = .ok (.aload_n 0, 1) := by decide +kernel
theorem dX8_bar_1 : decode cX8_bar 1 = .ok (.iload_n 1, 1) := by decide +kernel
theorem dX8_bar_2 : decode cX8_bar 2 = .ok (.invokevirtual 206, 3) := by decide +kernel
theorem dX8_bar_5 : decode cX8_bar 5 = .ok (.ifCond .ne 7, 3) := by decide +kernel
theorem dX8_bar_8 : decode cX8_bar 8 = .ok (.sipush (-1001), 3) := by decide +kernel
theorem dX8_bar_11 : decode cX8_bar 11 = .ok (.ireturn, 1) := by decide +kernel
theorem dX8_bar_12 : decode cX8_bar 12 = .ok (.aload_n 0, 1) := by decide +kernel
theorem dX8_bar_13 : decode cX8_bar 13 = .ok (.iload_n 1, 1) := by decide +kernel
theorem dX8_bar_14 : decode cX8_bar 14 = .ok (.iload_n 2, 1) := by decide +kernel
theorem dX8_bar_15 : decode cX8_bar 15 = .ok (.invokevirtual 234, 3) := by decide +kernel
theorem dX8_bar_18 : decode cX8_bar 18 = .ok (.ifCond .ne 7, 3) := by decide +kernel
theorem dX8_bar_21 : decode cX8_bar 21 = .ok (.sipush (-1002), 3) := by decide +kernel
theorem dX8_bar_24 : decode cX8_bar 24 = .ok (.ireturn, 1) := by decide +kernel
theorem dX8_bar_25 : decode cX8_bar 25 = .ok (.aload_n 0, 1) := by decide +kernel
theorem dX8_bar_26 : decode cX8_bar 26 = .ok (.iload_n 1, 1) := by decide +kernel
theorem dX8_bar_27 : decode cX8_bar 27 = .ok (.invokevirtual 268, 3) := by decide +kernel
theorem dX8_bar_30 : decode cX8_bar 30 = .ok (.aload_n 0, 1) := by decide +kernel
theorem dX8_bar_31 : decode cX8_bar 31 = .ok (.getfield 7, 3) := by decide +kernel
theorem dX8_bar_34 : decode cX8_bar 34 = .ok (.iload_n 1, 1) := by decide +kernel
theorem dX8_bar_35 : decode cX8_bar 35 = .ok (.iaload, 1) := by decide +kernel
theorem dX8_bar_36 : decode cX8_bar 36 = .ok (.istore_n 3, 1) := by decide +kernel
theorem dX8_bar_37 : decode cX8_bar 37 = .ok (.iconst 0, 1) := by decide +kernel
theorem dX8_bar_38 : decode cX8_bar 38 = .ok (.istore 4, 2) := by decide +kernel
theorem dX8_bar_40 : decode cX8_bar 40 = .ok (.iload 4, 2) := by decide +kernel
theorem dX8_bar_42 : decode cX8_bar 42 = .ok (.iload_n 3, 1) := by decide +kernel
theorem dX8_bar_43 : decode cX8_bar 43 = .ok (.if_icmp .gt 95, 3) := by decide +kernel
theorem dX8_bar_46 : decode cX8_bar 46 = .ok (.iconst 1, 1) := by decide +kernel
theorem dX8_bar_47 : decode cX8_bar 47 = .ok (.istore 5, 2) := by decide +kernel
theorem dX8_bar_49 : decode cX8_bar 49 = .ok (.iconst 0, 1) := by decide +kernel
theorem dX8_bar_50 : decode cX8_bar 50 = .ok (.istore 6, 2) := by decide +kernel
theorem dX8_bar_52 : decode cX8_bar 52 = .ok (.iload 6, 2) := by decide +kernel
theorem dX8_bar_54 : decode cX8_bar 54 = .ok (.iload_n 3, 1) := by decide +kernel
theorem dX8_bar_55 : decode cX8_bar 55 = .ok (.if_icmp .ge 69, 3) := by decide +kernel
theorem dX8_bar_58 : decode cX8_bar 58 = .ok (.iconst 1, 1) := by decide +kernel
theorem dX8_bar_59 : decode cX8_bar 59 = .ok (.istore 7, 2) := by decide +kernel
theorem dX8_bar_61 : decode cX8_bar 61 = .ok (.iload 7, 2) := by decide +kernel
theorem dX8_bar_63 : decode cX8_bar 63 = .ok (.iconst 1, 1) := by decide +kernel
theorem dX8_bar_64 : decode cX8_bar 64 = .ok (.aload_n 0, 1) := by decide +kernel
theorem dX8_bar_65 : decode cX8_bar 65 = .ok (.iload_n 1, 1) := by decide +kernel
theorem dX8_bar_66 : decode cX8_bar 66 = .ok (.iload 6, 2) := by decide +kernel
theorem dX8_bar_68 : decode cX8_bar 68 = .ok (.invokevirtual 251, 3) := by decide +kernel
theorem dX8_bar_71 : decode cX8_bar 71 = .ok (.ishl, 1) := by decide +kernel
theorem dX8_bar_72 : decode cX8_bar 72 = .ok (.if_icmp .ge 46, 3) := by decide +kernel
theorem dX8_bar_75 : decode cX8_bar 75 = .ok (.iload 5, 2) := by decide +kernel
theorem dX8_bar_77 : decode cX8_bar 77 = .ok (.ifCond .eq 32, 3) := by decide +kernel
theorem dX8_bar_80 : decode cX8_bar 80 = .ok (.aload_n 0, 1) := by decide +kernel
theorem dX8_bar_81 : decode cX8_bar 81 = .ok (.iload_n 1, 1) := by decide +kernel
theorem dX8_bar_82 : decode cX8_bar 82 = .ok (.iload_n 2, 1) := by decide +kernel
theorem dX8_bar_83 : decode cX8_bar 83 = .ok (.iload 6, 2) := by decide +kernel
theorem dX8_bar_85 : decode cX8_bar 85 = .ok (.iload 7, 2) := by decide +kernel
theorem dX8_bar_87 : decode cX8_bar 87 = .ok (.invokevirtual 272, 3) := by decide +kernel
theorem dX8_bar_90 : decode cX8_bar 90 = .ok (.iload 6, 2) := by decide +kernel
theorem dX8_bar_92 : decode cX8_bar 92 = .ok (.iload 4, 2) := by decide +kernel
theorem dX8_bar_94 : decode cX8_bar 94 = .ok (.if_icmp .lt 7, 3) := by decide +kernel
theorem dX8_bar_97 : decode cX8_bar 97 = .ok (.iconst 1, 1) := by decide +kernel
theorem dX8_bar_98 : decode cX8_bar 98 = .ok (.goto 4, 3) := by decide +kernel
theorem dX8_bar_101 : decode cX8_bar 101 = .ok (.iconst 0, 1) := by decide +kernel
theorem dX8_bar_102 : decode cX8_bar 102 = .ok (.if_icmp .ne 7, 3) := by decide +kernel
theorem dX8_bar_105 : decode cX8_bar 105 = .ok (.iconst 1, 1) := by decide +kernel
theorem dX8_bar_106 : decode cX8_bar 106 = .ok (.goto 4, 3) := by decide +kernel
theorem dX8_bar_109 : decode cX8_bar 109 = .ok (.iconst 0, 1) := by decide +kernel
theorem dX8_bar_110 : decode cX8_bar 110 = .ok (.istore 5, 2) := by decide +kernel
theorem dX8_bar_112 : decode cX8_bar 112 = .ok (.iinc 7 2, 3) := by decide +kernel
theorem dX8_bar_115 : decode cX8_bar 115 = .ok (.goto (-54), 3) := by decide +kernel
theorem dX8_bar_118 : decode cX8_bar 118 = .ok (.iinc 6 1, 3) := by decide +kernel
theorem dX8_bar_121 : decode cX8_bar 121 = .ok (.goto (-69), 3) := by decide +kernel
theorem dX8_bar_124 : decode cX8_bar 124 = .ok (.iload 5, 2) := by decide +kernel
theorem dX8_bar_126 : decode cX8_bar 126 = .ok (.ifCond .eq 6, 3) := by decide +kernel
theorem dX8_bar_129 : decode cX8_bar 129 = .ok (.iload 4, 2) := by decide +kernel
theorem dX8_bar_131 : decode cX8_bar 131 = .ok (.ireturn, 1) := by decide +kernel
theorem dX8_bar_132 : decode cX8_bar 132 = .ok (.iinc 4 1, 3) := by decide +kernel
theorem dX8_bar_135 : decode cX8_bar 135 = .ok (.goto (-95), 3) := by decide +kernel
theorem dX8_bar_138 : decode cX8_bar 138 = .ok (.iconst (-1), 1) := by decide +kernel
theorem dX8_bar_139 : decode cX8_bar 139 = .ok (.ireturn, 1) := by decide +kernel
theorem f_m_count_rows : True := trivial
theorem dX8_count_0 : decode cX8_count 0 = .ok (.iconst 0, 1) := by decide +kernel
theorem dX8_count_1 : decode cX8_count 1 = .ok (.istore_n 2, 1) := by decide +kernel
theorem dX8_count_2 : decode cX8_count 2 = .ok (.iconst 0, 1) := by decide +kernel
theorem dX8_count_3 : decode cX8_count 3 = .ok (.istore_n 3, 1) := by decide +kernel
theorem dX8_count_4 : decode cX8_count 4 = .ok (.iload_n 3, 1) := by decide +kernel
theorem dX8_count_5 : decode cX8_count 5 = .ok (.aload_n 0, 1) := by decide +kernel
theorem dX8_count_6 : decode cX8_count 6 = .ok (.getfield 304, 3) := by decide +kernel
theorem dX8_count_9 : decode cX8_count 9 = .ok (.if_icmp .ge 26, 3) := by decide +kernel
theorem dX8_count_12 : decode cX8_count 12 = .ok (.iload_n 2, 1) := by decide +kernel
theorem dX8_count_13 : decode cX8_count 13 = .ok (.aload_n 0, 1) := by decide +kernel
theorem dX8_count_14 : decode cX8_count 14 = .ok (.getfield 75, 3) := by decide +kernel
theorem dX8_count_17 : decode cX8_count 17 = .ok (.iload_n 3, 1) := by decide +kernel
theorem dX8_count_18 : decode cX8_count 18 = .ok (.baload, 1) := by decide +kernel
theorem dX8_count_19 : decode cX8_count 19 = .ok (.ifCond .eq 7, 3) := by decide +kernel
theorem dX8_count_22 : decode cX8_count 22 = .ok (.iconst 1, 1) := by decide +kernel
theorem dX8_count_23 : decode cX8_count 23 = .ok (.goto 4, 3) := by decide +kernel
theorem dX8_count_26 : decode cX8_count 26 = .ok (.iconst 0, 1) := by decide +kernel
theorem dX8_count_27 : decode cX8_count 27 = .ok (.iadd, 1) := by decide +kernel
theorem dX8_count_28 : decode cX8_count 28 = .ok (.istore_n 2, 1) := by decide +kernel
theorem dX8_count_29 : decode cX8_count 29 = .ok (.iinc 3 1, 3) := by decide +kernel
theorem dX8_count_32 : decode cX8_count 32 = .ok (.goto (-28), 3) := by decide +kernel
theorem dX8_count_35 : decode cX8_count 35 = .ok (.iload_n 1, 1) := by decide +kernel
theorem dX8_count_36 : decode cX8_count 36 = .ok (.tableswitch 58 0 4 #[36, 41, 46, 48, 53], 36) := by decide +kernel
theorem dX8_count_72 : decode cX8_count 72 = .ok (.aload_n 0, 1) := by decide +kernel
theorem dX8_count_73 : decode cX8_count 73 = .ok (.getfield 276, 3) := by decide +kernel
theorem dX8_count_76 : decode cX8_count 76 = .ok (.ireturn, 1) := by decide +kernel
theorem dX8_count_77 : decode cX8_count 77 = .ok (.aload_n 0, 1) := by decide +kernel
theorem dX8_count_78 : decode cX8_count 78 = .ok (.getfield 304, 3) := by decide +kernel
theorem dX8_count_81 : decode cX8_count 81 = .ok (.ireturn, 1) := by decide +kernel
theorem dX8_count_82 : decode cX8_count 82 = .ok (.iload_n 2, 1) := by decide +kernel
theorem dX8_count_83 : decode cX8_count 83 = .ok (.ireturn, 1) := by decide +kernel
theorem dX8_count_84 : decode cX8_count 84 = .ok (.aload_n 0, 1) := by decide +kernel
theorem dX8_count_85 : decode cX8_count 85 = .ok (.getfield 315, 3) := by decide +kernel
theorem dX8_count_88 : decode cX8_count 88 = .ok (.ireturn, 1) := by decide +kernel
theorem dX8_count_89 : decode cX8_count 89 = .ok (.aload_n 0, 1) := by decide +kernel
theorem dX8_count_90 : decode cX8_count 90 = .ok (.getfield 113, 3) := by decide +kernel
theorem dX8_count_93 : decode cX8_count 93 = .ok (.ireturn, 1) := by decide +kernel
theorem dX8_count_94 : decode cX8_count 94 = .ok (.sipush (-1002), 3) := by decide +kernel
theorem dX8_count_97 : decode cX8_count 97 = .ok (.ireturn, 1) := by decide +kernel
theorem f_m_feed_rows : True := trivial
theorem dX8_feed_0 : decode cX8_feed 0 = .ok (.iload_n 1, 1) := by decide +kernel
theorem dX8_feed_1 : decode cX8_feed 1 = .ok (.i2l, 1) := by decide +kernel
theorem dX8_feed_2 : decode cX8_feed 2 = .ok (.lconst 1, 1) := by decide +kernel
theorem dX8_feed_3 : decode cX8_feed 3 = .ok (.ldc2_w 111, 3) := by decide +kernel
theorem dX8_feed_6 : decode cX8_feed 6 = .ok (.invokestatic 107, 3) := by decide +kernel
theorem dX8_feed_9 : decode cX8_feed 9 = .ok (.ifCond .ne 7, 3) := by decide +kernel
theorem dX8_feed_12 : decode cX8_feed 12 = .ok (.sipush (-1002), 3) := by decide +kernel
theorem dX8_feed_15 : decode cX8_feed 15 = .ok (.ireturn, 1) := by decide +kernel
theorem dX8_feed_16 : decode cX8_feed 16 = .ok (.aload_n 0, 1) := by decide +kernel
theorem dX8_feed_17 : decode cX8_feed 17 = .ok (.getfield 113, 3) := by decide +kernel
theorem dX8_feed_20 : decode cX8_feed 20 = .ok (.iload_n 1, 1) := by decide +kernel
theorem dX8_feed_21 : decode cX8_feed 21 = .ok (.iadd, 1) := by decide +kernel
theorem dX8_feed_22 : decode cX8_feed 22 = .ok (.sipush 240, 3) := by decide +kernel
theorem dX8_feed_25 : decode cX8_feed 25 = .ok (.if_icmp .le 7, 3) := by decide +kernel
theorem dX8_feed_28 : decode cX8_feed 28 = .ok (.sipush (-1004), 3) := by decide +kernel
theorem dX8_feed_31 : decode cX8_feed 31 = .ok (.ireturn, 1) := by decide +kernel
theorem dX8_feed_32 : decode cX8_feed 32 = .ok (.iload_n 1, 1) := by decide +kernel
theorem dX8_feed_33 : decode cX8_feed 33 = .ok (.iconst 1, 1) := by decide +kernel
theorem dX8_feed_34 : decode cX8_feed 34 = .ok (.isub, 1) := by decide +kernel
theorem dX8_feed_35 : decode cX8_feed 35 = .ok (.istore 4, 2) := by decide +kernel
theorem dX8_feed_37 : decode cX8_feed 37 = .ok (.iload 4, 2) := by decide +kernel
theorem dX8_feed_39 : decode cX8_feed 39 = .ok (.ifCond .lt 40, 3) := by decide +kernel
theorem dX8_feed_42 : decode cX8_feed 42 = .ok (.aload_n 0, 1) := by decide +kernel
theorem dX8_feed_43 : decode cX8_feed 43 = .ok (.getfield 22, 3) := by decide +kernel
theorem dX8_feed_46 : decode cX8_feed 46 = .ok (.aload_n 0, 1) := by decide +kernel
theorem dX8_feed_47 : decode cX8_feed 47 = .ok (.getfield 113, 3) := by decide +kernel
theorem dX8_feed_50 : decode cX8_feed 50 = .ok (.lload_n 2, 1) := by decide +kernel
theorem dX8_feed_51 : decode cX8_feed 51 = .ok (.bipush 8, 2) := by decide +kernel
theorem dX8_feed_53 : decode cX8_feed 53 = .ok (.iload 4, 2) := by decide +kernel
theorem dX8_feed_55 : decode cX8_feed 55 = .ok (.imul, 1) := by decide +kernel
theorem dX8_feed_56 : decode cX8_feed 56 = .ok (.lshr, 1) := by decide +kernel
theorem dX8_feed_57 : decode cX8_feed 57 = .ok (.ldc2_w 116, 3) := by decide +kernel
theorem dX8_feed_60 : decode cX8_feed 60 = .ok (.land, 1) := by decide +kernel
theorem dX8_feed_61 : decode cX8_feed 61 = .ok (.l2i, 1) := by decide +kernel
theorem dX8_feed_62 : decode cX8_feed 62 = .ok (.iastore, 1) := by decide +kernel
theorem dX8_feed_63 : decode cX8_feed 63 = .ok (.aload_n 0, 1) := by decide +kernel
theorem dX8_feed_64 : decode cX8_feed 64 = .ok (.dup, 1) := by decide +kernel
theorem dX8_feed_65 : decode cX8_feed 65 = .ok (.getfield 113, 3) := by decide +kernel
theorem dX8_feed_68 : decode cX8_feed 68 = .ok (.iconst 1, 1) := by decide +kernel
theorem dX8_feed_69 : decode cX8_feed 69 = .ok (.iadd, 1) := by decide +kernel
theorem dX8_feed_70 : decode cX8_feed 70 = .ok (.putfield 113, 3) := by decide +kernel
theorem dX8_feed_73 : decode cX8_feed 73 = .ok (.iinc 4 (-1), 3) := by decide +kernel
theorem dX8_feed_76 : decode cX8_feed 76 = .ok (.goto (-39), 3) := by decide +kernel
theorem dX8_feed_79 : decode cX8_feed 79 = .ok (.aload_n 0, 1) := by decide +kernel
theorem dX8_feed_80 : decode cX8_feed 80 = .ok (.getfield 113, 3) := by decide +kernel
theorem dX8_feed_83 : decode cX8_feed 83 = .ok (.ireturn, 1) := by decide +kernel
theorem f_m_judge_rows : True := trivial
theorem dX8_judge_0 : decode cX8_judge 0 = .ok (.aload_n 0, 1) := by decide +kernel
theorem dX8_judge_1 : decode cX8_judge 1 = .ok (.iload_n 1, 1) := by decide +kernel
theorem dX8_judge_2 : decode cX8_judge 2 = .ok (.invokevirtual 206, 3) := by decide +kernel
theorem dX8_judge_5 : decode cX8_judge 5 = .ok (.ifCond .ne 7, 3) := by decide +kernel
theorem dX8_judge_8 : decode cX8_judge 8 = .ok (.sipush (-1001), 3) := by decide +kernel
theorem dX8_judge_11 : decode cX8_judge 11 = .ok (.ireturn, 1) := by decide +kernel
theorem dX8_judge_12 : decode cX8_judge 12 = .ok (.aload_n 0, 1) := by decide +kernel
theorem dX8_judge_13 : decode cX8_judge 13 = .ok (.iload_n 1, 1) := by decide +kernel
theorem dX8_judge_14 : decode cX8_judge 14 = .ok (.iload_n 2, 1) := by decide +kernel
theorem dX8_judge_15 : decode cX8_judge 15 = .ok (.invokevirtual 234, 3) := by decide +kernel
theorem dX8_judge_18 : decode cX8_judge 18 = .ok (.ifCond .ne 7, 3) := by decide +kernel
theorem dX8_judge_21 : decode cX8_judge 21 = .ok (.sipush (-1002), 3) := by decide +kernel
theorem dX8_judge_24 : decode cX8_judge 24 = .ok (.ireturn, 1) := by decide +kernel
theorem dX8_judge_25 : decode cX8_judge 25 = .ok (.aload_n 0, 1) := by decide +kernel
theorem dX8_judge_26 : decode cX8_judge 26 = .ok (.getfield 304, 3) := by decide +kernel
theorem dX8_judge_29 : decode cX8_judge 29 = .ok (.ifCond .eq 34, 3) := by decide +kernel
theorem dX8_judge_32 : decode cX8_judge 32 = .ok (.aload_n 0, 1) := by decide +kernel
theorem dX8_judge_33 : decode cX8_judge 33 = .ok (.getfield 304, 3) := by decide +kernel
theorem dX8_judge_36 : decode cX8_judge 36 = .ok (.aload_n 0, 1) := by decide +kernel
theorem dX8_judge_37 : decode cX8_judge 37 = .ok (.getfield 7, 3) := by decide +kernel
theorem dX8_judge_40 : decode cX8_judge 40 = .ok (.iload_n 1, 1) := by decide +kernel
theorem dX8_judge_41 : decode cX8_judge 41 = .ok (.iaload, 1) := by decide +kernel
theorem dX8_judge_42 : decode cX8_judge 42 = .ok (.if_icmp .gt 21, 3) := by decide +kernel
theorem dX8_judge_45 : decode cX8_judge 45 = .ok (.iload_n 3, 1) := by decide +kernel
theorem dX8_judge_46 : decode cX8_judge 46 = .ok (.ifCond .eq 21, 3) := by decide +kernel
theorem dX8_judge_49 : decode cX8_judge 49 = .ok (.aload_n 0, 1) := by decide +kernel
theorem dX8_judge_50 : decode cX8_judge 50 = .ok (.getfield 75, 3) := by decide +kernel
theorem dX8_judge_53 : decode cX8_judge 53 = .ok (.aload_n 0, 1) := by decide +kernel
theorem dX8_judge_54 : decode cX8_judge 54 = .ok (.getfield 304, 3) := by decide +kernel
theorem dX8_judge_57 : decode cX8_judge 57 = .ok (.iconst 1, 1) := by decide +kernel
theorem dX8_judge_58 : decode cX8_judge 58 = .ok (.isub, 1) := by decide +kernel
theorem dX8_judge_59 : decode cX8_judge 59 = .ok (.baload, 1) := by decide +kernel
theorem dX8_judge_60 : decode cX8_judge 60 = .ok (.ifCond .ne 7, 3) := by decide +kernel
theorem dX8_judge_63 : decode cX8_judge 63 = .ok (.sipush (-1003), 3) := by decide +kernel
theorem dX8_judge_66 : decode cX8_judge 66 = .ok (.ireturn, 1) := by decide +kernel
theorem dX8_judge_67 : decode cX8_judge 67 = .ok (.aload_n 0, 1) := by decide +kernel
theorem dX8_judge_68 : decode cX8_judge 68 = .ok (.iload_n 1, 1) := by decide +kernel
theorem dX8_judge_69 : decode cX8_judge 69 = .ok (.invokevirtual 268, 3) := by decide +kernel
theorem dX8_judge_72 : decode cX8_judge 72 = .ok (.iconst 0, 1) := by decide +kernel
theorem dX8_judge_73 : decode cX8_judge 73 = .ok (.istore 4, 2) := by decide +kernel
theorem dX8_judge_75 : decode cX8_judge 75 = .ok (.iload 4, 2) := by decide +kernel
theorem dX8_judge_77 : decode cX8_judge 77 = .ok (.aload_n 0, 1) := by decide +kernel
theorem dX8_judge_78 : decode cX8_judge 78 = .ok (.getfield 304, 3) := by decide +kernel
theorem dX8_judge_81 : decode cX8_judge 81 = .ok (.if_icmp .ge 126, 3) := by decide +kernel
theorem dX8_judge_84 : decode cX8_judge 84 = .ok (.aload_n 0, 1) := by decide +kernel
theorem dX8_judge_85 : decode cX8_judge 85 = .ok (.getfield 75, 3) := by decide +kernel
theorem dX8_judge_88 : decode cX8_judge 88 = .ok (.iload 4, 2) := by decide +kernel
theorem dX8_judge_90 : decode cX8_judge 90 = .ok (.baload, 1) := by decide +kernel
theorem dX8_judge_91 : decode cX8_judge 91 = .ok (.ifCond .eq 110, 3) := by decide +kernel
theorem dX8_judge_94 : decode cX8_judge 94 = .ok (.iload 4, 2) := by decide +kernel
theorem dX8_judge_96 : decode cX8_judge 96 = .ok (.aload_n 0, 1) := by decide +kernel
theorem dX8_judge_97 : decode cX8_judge 97 = .ok (.iload_n 1, 1) := by decide +kernel
theorem dX8_judge_98 : decode cX8_judge 98 = .ok (.iload 4, 2) := by decide +kernel
theorem dX8_judge_100 : decode cX8_judge 100 = .ok (.invokevirtual 251, 3) := by decide +kernel
theorem dX8_judge_103 : decode cX8_judge 103 = .ok (.iadd, 1) := by decide +kernel
theorem dX8_judge_104 : decode cX8_judge 104 = .ok (.aload_n 0, 1) := by decide +kernel
theorem dX8_judge_105 : decode cX8_judge 105 = .ok (.getfield 304, 3) := by decide +kernel
theorem dX8_judge_108 : decode cX8_judge 108 = .ok (.if_icmp .gt 93, 3) := by decide +kernel
theorem dX8_judge_111 : decode cX8_judge 111 = .ok (.iconst 0, 1) := by decide +kernel
theorem dX8_judge_112 : decode cX8_judge 112 = .ok (.istore 5, 2) := by decide +kernel
theorem dX8_judge_114 : decode cX8_judge 114 = .ok (.iconst 0, 1) := by decide +kernel
theorem dX8_judge_115 : decode cX8_judge 115 = .ok (.istore 6, 2) := by decide +kernel
theorem dX8_judge_117 : decode cX8_judge 117 = .ok (.iload 6, 2) := by decide +kernel
theorem dX8_judge_119 : decode cX8_judge 119 = .ok (.aload_n 0, 1) := by decide +kernel
theorem dX8_judge_120 : decode cX8_judge 120 = .ok (.iload_n 1, 1) := by decide +kernel
theorem dX8_judge_121 : decode cX8_judge 121 = .ok (.iload 4, 2) := by decide +kernel
theorem dX8_judge_123 : decode cX8_judge 123 = .ok (.invokevirtual 251, 3) := by decide +kernel
theorem dX8_judge_126 : decode cX8_judge 126 = .ok (.if_icmp .ge 35, 3) := by decide +kernel
theorem dX8_judge_129 : decode cX8_judge 129 = .ok (.iload 5, 2) := by decide +kernel
theorem dX8_judge_131 : decode cX8_judge 131 = .ok (.aload_n 0, 1) := by decide +kernel
theorem dX8_judge_132 : decode cX8_judge 132 = .ok (.getfield 75, 3) := by decide +kernel
theorem dX8_judge_135 : decode cX8_judge 135 = .ok (.iload 4, 2) := by decide +kernel
theorem dX8_judge_137 : decode cX8_judge 137 = .ok (.iload 6, 2) := by decide +kernel
theorem dX8_judge_139 : decode cX8_judge 139 = .ok (.iadd, 1) := by decide +kernel
theorem dX8_judge_140 : decode cX8_judge 140 = .ok (.baload, 1) := by decide +kernel
theorem dX8_judge_141 : decode cX8_judge 141 = .ok (.ifCond .eq 10, 3) := by decide +kernel
theorem dX8_judge_144 : decode cX8_judge 144 = .ok (.iconst 1, 1) := by decide +kernel
theorem dX8_judge_145 : decode cX8_judge 145 = .ok (.iload 6, 2) := by decide +kernel
theorem dX8_judge_147 : decode cX8_judge 147 = .ok (.ishl, 1) := by decide +kernel
theorem dX8_judge_148 : decode cX8_judge 148 = .ok (.goto 4, 3) := by decide +kernel
theorem dX8_judge_151 : decode cX8_judge 151 = .ok (.iconst 0, 1) := by decide +kernel
theorem dX8_judge_152 : decode cX8_judge 152 = .ok (.ior, 1) := by decide +kernel
theorem dX8_judge_153 : decode cX8_judge 153 = .ok (.istore 5, 2) := by decide +kernel
theorem dX8_judge_155 : decode cX8_judge 155 = .ok (.iinc 6 1, 3) := by decide +kernel
theorem dX8_judge_158 : decode cX8_judge 158 = .ok (.goto (-41), 3) := by decide +kernel
theorem dX8_judge_161 : decode cX8_judge 161 = .ok (.iload_n 3, 1) := by decide +kernel
theorem dX8_judge_162 : decode cX8_judge 162 = .ok (.ifCond .eq 18, 3) := by decide +kernel
theorem dX8_judge_165 : decode cX8_judge 165 = .ok (.iload 4, 2) := by decide +kernel
theorem dX8_judge_167 : decode cX8_judge 167 = .ok (.aload_n 0, 1) := by decide +kernel
theorem dX8_judge_168 : decode cX8_judge 168 = .ok (.getfield 304, 3) := by decide +kernel
theorem dX8_judge_171 : decode cX8_judge 171 = .ok (.iconst 1, 1) := by decide +kernel
theorem dX8_judge_172 : decode cX8_judge 172 = .ok (.isub, 1) := by decide +kernel
theorem dX8_judge_173 : decode cX8_judge 173 = .ok (.if_icmp .ne 7, 3) := by decide +kernel
theorem dX8_judge_176 : decode cX8_judge 176 = .ok (.iconst 1, 1) := by decide +kernel
theorem dX8_judge_177 : decode cX8_judge 177 = .ok (.goto 4, 3) := by decide +kernel
theorem dX8_judge_180 : decode cX8_judge 180 = .ok (.iconst 0, 1) := by decide +kernel
theorem dX8_judge_181 : decode cX8_judge 181 = .ok (.istore 6, 2) := by decide +kernel
theorem dX8_judge_183 : decode cX8_judge 183 = .ok (.aload_n 0, 1) := by decide +kernel
theorem dX8_judge_184 : decode cX8_judge 184 = .ok (.iload_n 1, 1) := by decide +kernel
theorem dX8_judge_185 : decode cX8_judge 185 = .ok (.iload_n 2, 1) := by decide +kernel
theorem dX8_judge_186 : decode cX8_judge 186 = .ok (.iload 4, 2) := by decide +kernel
theorem dX8_judge_188 : decode cX8_judge 188 = .ok (.iload 5, 2) := by decide +kernel
theorem dX8_judge_190 : decode cX8_judge 190 = .ok (.invokevirtual 272, 3) := by decide +kernel
theorem dX8_judge_193 : decode cX8_judge 193 = .ok (.iload 6, 2) := by decide +kernel
theorem dX8_judge_195 : decode cX8_judge 195 = .ok (.if_icmp .eq 6, 3) := by decide +kernel
theorem dX8_judge_198 : decode cX8_judge 198 = .ok (.iload 4, 2) := by decide +kernel
theorem dX8_judge_200 : decode cX8_judge 200 = .ok (.ireturn, 1) := by decide +kernel
theorem dX8_judge_201 : decode cX8_judge 201 = .ok (.iinc 4 1, 3) := by decide +kernel
theorem dX8_judge_204 : decode cX8_judge 204 = .ok (.goto (-129), 3) := by decide +kernel
theorem dX8_judge_207 : decode cX8_judge 207 = .ok (.iconst (-1), 1) := by decide +kernel
theorem dX8_judge_208 : decode cX8_judge 208 = .ok (.ireturn, 1) := by decide +kernel
theorem f_m_thought_rows : True := trivial
theorem dX8_thought_0 : decode cX8_thought 0 = .ok (.aload_n 0, 1) := by decide +kernel
theorem dX8_thought_1 : decode cX8_thought 1 = .ok (.iload_n 1, 1) := by decide +kernel
theorem dX8_thought_2 : decode cX8_thought 2 = .ok (.invokevirtual 206, 3) := by decide +kernel
theorem dX8_thought_5 : decode cX8_thought 5 = .ok (.ifCond .eq 11, 3) := by decide +kernel
theorem dX8_thought_8 : decode cX8_thought 8 = .ok (.aload_n 0, 1) := by decide +kernel
theorem dX8_thought_9 : decode cX8_thought 9 = .ok (.iload_n 2, 1) := by decide +kernel
theorem dX8_thought_10 : decode cX8_thought 10 = .ok (.invokevirtual 206, 3) := by decide +kernel
theorem dX8_thought_13 : decode cX8_thought 13 = .ok (.ifCond .ne 7, 3) := by decide +kernel
theorem dX8_thought_16 : decode cX8_thought 16 = .ok (.sipush (-1001), 3) := by decide +kernel
theorem dX8_thought_19 : decode cX8_thought 19 = .ok (.ireturn, 1) := by decide +kernel
theorem dX8_thought_20 : decode cX8_thought 20 = .ok (.ldc2_w 307, 3) := by decide +kernel
theorem dX8_thought_23 : decode cX8_thought 23 = .ok (.lstore_n 3, 1) := by decide +kernel
theorem dX8_thought_24 : decode cX8_thought 24 = .ok (.ldc2_w 307, 3) := by decide +kernel
theorem dX8_thought_27 : decode cX8_thought 27 = .ok (.lstore 5, 2) := by decide +kernel
theorem dX8_thought_29 : decode cX8_thought 29 = .ok (.iconst 0, 1) := by decide +kernel
theorem dX8_thought_30 : decode cX8_thought 30 = .ok (.istore 7, 2) := by decide +kernel
theorem dX8_thought_32 : decode cX8_thought 32 = .ok (.iload 7, 2) := by decide +kernel
theorem dX8_thought_34 : decode cX8_thought 34 = .ok (.aload_n 0, 1) := by decide +kernel
theorem dX8_thought_35 : decode cX8_thought 35 = .ok (.getfield 304, 3) := by decide +kernel
theorem dX8_thought_38 : decode cX8_thought 38 = .ok (.if_icmp .ge 186, 3) := by decide +kernel
theorem dX8_thought_41 : decode cX8_thought 41 = .ok (.iload 7, 2) := by decide +kernel
theorem dX8_thought_43 : decode cX8_thought 43 = .ok (.aload_n 0, 1) := by decide +kernel
theorem dX8_thought_44 : decode cX8_thought 44 = .ok (.getfield 7, 3) := by decide +kernel
theorem dX8_thought_47 : decode cX8_thought 47 = .ok (.iload_n 1, 1) := by decide +kernel
theorem dX8_thought_48 : decode cX8_thought 48 = .ok (.iaload, 1) := by decide +kernel
theorem dX8_thought_49 : decode cX8_thought 49 = .ok (.if_icmp .ge 175, 3) := by decide +kernel
theorem dX8_thought_52 : decode cX8_thought 52 = .ok (.iload 7, 2) := by decide +kernel
theorem dX8_thought_54 : decode cX8_thought 54 = .ok (.aload_n 0, 1) := by decide +kernel
theorem dX8_thought_55 : decode cX8_thought 55 = .ok (.getfield 7, 3) := by decide +kernel
theorem dX8_thought_58 : decode cX8_thought 58 = .ok (.iload_n 2, 1) := by decide +kernel
theorem dX8_thought_59 : decode cX8_thought 59 = .ok (.iaload, 1) := by decide +kernel
theorem dX8_thought_60 : decode cX8_thought 60 = .ok (.if_icmp .ge 164, 3) := by decide +kernel
theorem dX8_thought_63 : decode cX8_thought 63 = .ok (.iload 7, 2) := by decide +kernel
theorem dX8_thought_65 : decode cX8_thought 65 = .ok (.ifCond .le 28, 3) := by decide +kernel
theorem dX8_thought_68 : decode cX8_thought 68 = .ok (.aload_n 0, 1) := by decide +kernel
theorem dX8_thought_69 : decode cX8_thought 69 = .ok (.getfield 75, 3) := by decide +kernel
theorem dX8_thought_72 : decode cX8_thought 72 = .ok (.iload 7, 2) := by decide +kernel
theorem dX8_thought_74 : decode cX8_thought 74 = .ok (.ifCond .le 10, 3) := by decide +kernel
theorem dX8_thought_77 : decode cX8_thought 77 = .ok (.iload 7, 2) := by decide +kernel
theorem dX8_thought_79 : decode cX8_thought 79 = .ok (.iconst 1, 1) := by decide +kernel
theorem dX8_thought_80 : decode cX8_thought 80 = .ok (.isub, 1) := by decide +kernel
theorem dX8_thought_81 : decode cX8_thought 81 = .ok (.goto 4, 3) := by decide +kernel
theorem dX8_thought_85 : decode cX8_thought 85 = .ok (.baload, 1) := by decide +kernel
theorem dX8_thought_86 : decode cX8_thought 86 = .ok (.ifCond .eq 7, 3) := by decide +kernel
theorem dX8_thought_89 : decode cX8_thought 89 = .ok (.iconst 1, 1) := by decide +kernel
theorem dX8_thought_90 : decode cX8_thought 90 = .ok (.goto 4, 3) := by decide +kernel
theorem dX8_thought_93 : decode cX8_thought 93 = .ok (.iconst 0, 1) := by decide +kernel
theorem dX8_thought_94 : decode cX8_thought 94 = .ok (.istore 8, 2) := by decide +kernel
theorem dX8_thought_96 : decode cX8_thought 96 = .ok (.aload_n 0, 1) := by decide +kernel
theorem dX8_thought_97 : decode cX8_thought 97 = .ok (.iload_n 1, 1) := by decide +kernel
theorem dX8_thought_98 : decode cX8_thought 98 = .ok (.iload 7, 2) := by decide +kernel
theorem dX8_thought_100 : decode cX8_thought 100 = .ok (.iload 8, 2) := by decide +kernel
theorem dX8_thought_102 : decode cX8_thought 102 = .ok (.invokevirtual 219, 3) := by decide +kernel
theorem dX8_thought_105 : decode cX8_thought 105 = .ok (.istore 9, 2) := by decide +kernel
theorem dX8_thought_107 : decode cX8_thought 107 = .ok (.aload_n 0, 1) := by decide +kernel
theorem dX8_thought_108 : decode cX8_thought 108 = .ok (.iload_n 2, 1) := by decide +kernel
theorem dX8_thought_109 : decode cX8_thought 109 = .ok (.iload 7, 2) := by decide +kernel
theorem dX8_thought_111 : decode cX8_thought 111 = .ok (.iload 8, 2) := by decide +kernel
theorem dX8_thought_113 : decode cX8_thought 113 = .ok (.invokevirtual 219, 3) := by decide +kernel
theorem dX8_thought_116 : decode cX8_thought 116 = .ok (.istore 10, 2) := by decide +kernel
theorem dX8_thought_118 : decode cX8_thought 118 = .ok (.lload_n 3, 1) := by decide +kernel
theorem dX8_thought_119 : decode cX8_thought 119 = .ok (.aload_n 0, 1) := by decide +kernel
theorem dX8_thought_120 : decode cX8_thought 120 = .ok (.getfield 75, 3) := by decide +kernel
theorem dX8_thought_123 : decode cX8_thought 123 = .ok (.iload 7, 2) := by decide +kernel
theorem dX8_thought_125 : decode cX8_thought 125 = .ok (.baload, 1) := by decide +kernel
theorem dX8_thought_126 : decode cX8_thought 126 = .ok (.ifCond .eq 8, 3) := by decide +kernel
theorem dX8_thought_129 : decode cX8_thought 129 = .ok (.iload 9, 2) := by decide +kernel
theorem dX8_thought_131 : decode cX8_thought 131 = .ok (.goto 8, 3) := by decide +kernel
theorem dX8_thought_134 : decode cX8_thought 134 = .ok (.bipush 100, 2) := by decide +kernel
theorem dX8_thought_136 : decode cX8_thought 136 = .ok (.iload 9, 2) := by decide +kernel
theorem dX8_thought_138 : decode cX8_thought 138 = .ok (.isub, 1) := by decide +kernel
theorem dX8_thought_139 : decode cX8_thought 139 = .ok (.i2l, 1) := by decide +kernel
theorem dX8_thought_140 : decode cX8_thought 140 = .ok (.lmul, 1) := by decide +kernel
theorem dX8_thought_141 : decode cX8_thought 141 = .ok (.ldc2_w 240, 3) := by decide +kernel
theorem dX8_thought_144 : decode cX8_thought 144 = .ok (.ldiv, 1) := by decide +kernel
theorem dX8_thought_145 : decode cX8_thought 145 = .ok (.lstore_n 3, 1) := by decide +kernel
theorem dX8_thought_146 : decode cX8_thought 146 = .ok (.lload 5, 2) := by decide +kernel
theorem dX8_thought_148 : decode cX8_thought 148 = .ok (.aload_n 0, 1) := by decide +kernel
theorem dX8_thought_149 : decode cX8_thought 149 = .ok (.getfield 75, 3) := by decide +kernel
theorem dX8_thought_152 : decode cX8_thought 152 = .ok (.iload 7, 2) := by decide +kernel
theorem dX8_thought_154 : decode cX8_thought 154 = .ok (.baload, 1) := by decide +kernel
theorem dX8_thought_155 : decode cX8_thought 155 = .ok (.ifCond .eq 8, 3) := by decide +kernel
theorem dX8_thought_158 : decode cX8_thought 158 = .ok (.iload 10, 2) := by decide +kernel
theorem dX8_thought_160 : decode cX8_thought 160 = .ok (.goto 8, 3) := by decide +kernel
theorem dX8_thought_163 : decode cX8_thought 163 = .ok (.bipush 100, 2) := by decide +kernel
theorem dX8_thought_165 : decode cX8_thought 165 = .ok (.iload 10, 2) := by decide +kernel
theorem dX8_thought_167 : decode cX8_thought 167 = .ok (.isub, 1) := by decide +kernel
theorem dX8_thought_168 : decode cX8_thought 168 = .ok (.i2l, 1) := by decide +kernel
theorem dX8_thought_169 : decode cX8_thought 169 = .ok (.lmul, 1) := by decide +kernel
theorem dX8_thought_170 : decode cX8_thought 170 = .ok (.ldc2_w 240, 3) := by decide +kernel
theorem dX8_thought_173 : decode cX8_thought 173 = .ok (.ldiv, 1) := by decide +kernel
theorem dX8_thought_174 : decode cX8_thought 174 = .ok (.lstore 5, 2) := by decide +kernel
theorem dX8_thought_176 : decode cX8_thought 176 = .ok (.lload_n 3, 1) := by decide +kernel
theorem dX8_thought_177 : decode cX8_thought 177 = .ok (.lload 5, 2) := by decide +kernel
theorem dX8_thought_179 : decode cX8_thought 179 = .ok (.lcmp, 1) := by decide +kernel
theorem dX8_thought_180 : decode cX8_thought 180 = .ok (.ifCond .le 7, 3) := by decide +kernel
theorem dX8_thought_183 : decode cX8_thought 183 = .ok (.lload_n 3, 1) := by decide +kernel
theorem dX8_thought_184 : decode cX8_thought 184 = .ok (.goto 5, 3) := by decide +kernel
theorem dX8_thought_187 : decode cX8_thought 187 = .ok (.lload 5, 2) := by decide +kernel
theorem dX8_thought_189 : decode cX8_thought 189 = .ok (.lstore 11, 2) := by decide +kernel
theorem dX8_thought_191 : decode cX8_thought 191 = .ok (.lload 11, 2) := by decide +kernel
theorem dX8_thought_193 : decode cX8_thought 193 = .ok (.lconst 0, 1) := by decide +kernel
theorem dX8_thought_194 : decode cX8_thought 194 = .ok (.lcmp, 1) := by decide +kernel
theorem dX8_thought_195 : decode cX8_thought 195 = .ok (.ifCond .le 23, 3) := by decide +kernel
theorem dX8_thought_198 : decode cX8_thought 198 = .ok (.lload_n 3, 1) := by decide +kernel
theorem dX8_thought_199 : decode cX8_thought 199 = .ok (.ldc2_w 309, 3) := by decide +kernel
theorem dX8_thought_202 : decode cX8_thought 202 = .ok (.lmul, 1) := by decide +kernel
theorem dX8_thought_203 : decode cX8_thought 203 = .ok (.lload 11, 2) := by decide +kernel
theorem dX8_thought_205 : decode cX8_thought 205 = .ok (.ldiv, 1) := by decide +kernel
theorem dX8_thought_206 : decode cX8_thought 206 = .ok (.lstore_n 3, 1) := by decide +kernel
theorem dX8_thought_207 : decode cX8_thought 207 = .ok (.lload 5, 2) := by decide +kernel
theorem dX8_thought_209 : decode cX8_thought 209 = .ok (.ldc2_w 309, 3) := by decide +kernel
theorem dX8_thought_212 : decode cX8_thought 212 = .ok (.lmul, 1) := by decide +kernel
theorem dX8_thought_213 : decode cX8_thought 213 = .ok (.lload 11, 2) := by decide +kernel
theorem dX8_thought_215 : decode cX8_thought 215 = .ok (.ldiv, 1) := by decide +kernel
theorem dX8_thought_216 : decode cX8_thought 216 = .ok (.lstore 5, 2) := by decide +kernel
theorem dX8_thought_218 : decode cX8_thought 218 = .ok (.iinc 7 1, 3) := by decide +kernel
theorem dX8_thought_221 : decode cX8_thought 221 = .ok (.goto (-189), 3) := by decide +kernel
theorem dX8_thought_224 : decode cX8_thought 224 = .ok (.lload_n 3, 1) := by decide +kernel
theorem dX8_thought_225 : decode cX8_thought 225 = .ok (.lload 5, 2) := by decide +kernel
theorem dX8_thought_227 : decode cX8_thought 227 = .ok (.ladd, 1) := by decide +kernel
theorem dX8_thought_228 : decode cX8_thought 228 = .ok (.lconst 0, 1) := by decide +kernel
theorem dX8_thought_229 : decode cX8_thought 229 = .ok (.lcmp, 1) := by decide +kernel
theorem dX8_thought_230 : decode cX8_thought 230 = .ok (.ifCond .ne 7, 3) := by decide +kernel
theorem dX8_thought_233 : decode cX8_thought 233 = .ok (.iconst 0, 1) := by decide +kernel
theorem dX8_thought_234 : decode cX8_thought 234 = .ok (.goto 14, 3) := by decide +kernel
theorem dX8_thought_237 : decode cX8_thought 237 = .ok (.lload_n 3, 1) := by decide +kernel
theorem dX8_thought_238 : decode cX8_thought 238 = .ok (.ldc2_w 309, 3) := by decide +kernel
theorem dX8_thought_241 : decode cX8_thought 241 = .ok (.lmul, 1) := by decide +kernel
theorem dX8_thought_242 : decode cX8_thought 242 = .ok (.lload_n 3, 1) := by decide +kernel
theorem dX8_thought_243 : decode cX8_thought 243 = .ok (.lload 5, 2) := by decide +kernel
theorem dX8_thought_245 : decode cX8_thought 245 = .ok (.ladd, 1) := by decide +kernel
theorem dX8_thought_246 : decode cX8_thought 246 = .ok (.ldiv, 1) := by decide +kernel
theorem dX8_thought_247 : decode cX8_thought 247 = .ok (.l2i, 1) := by decide +kernel
theorem dX8_thought_248 : decode cX8_thought 248 = .ok (.ireturn, 1) := by decide +kernel
theorem f_m_waits_rows : True := trivial
theorem dX8_waits_0 : decode cX8_waits 0 = .ok (.aload_n 0, 1) := by decide +kernel
theorem dX8_waits_1 : decode cX8_waits 1 = .ok (.iload_n 1, 1) := by decide +kernel
theorem dX8_waits_2 : decode cX8_waits 2 = .ok (.invokevirtual 206, 3) := by decide +kernel
theorem dX8_waits_5 : decode cX8_waits 5 = .ok (.ifCond .eq 12, 3) := by decide +kernel
theorem dX8_waits_8 : decode cX8_waits 8 = .ok (.aload_n 0, 1) := by decide +kernel
theorem dX8_waits_9 : decode cX8_waits 9 = .ok (.iload_n 1, 1) := by decide +kernel
theorem dX8_waits_10 : decode cX8_waits 10 = .ok (.iload_n 3, 1) := by decide +kernel
theorem dX8_waits_11 : decode cX8_waits 11 = .ok (.invokevirtual 215, 3) := by decide +kernel
theorem dX8_waits_14 : decode cX8_waits 14 = .ok (.ifCond .ne 7, 3) := by decide +kernel
theorem dX8_waits_17 : decode cX8_waits 17 = .ok (.sipush (-1001), 3) := by decide +kernel
theorem dX8_waits_20 : decode cX8_waits 20 = .ok (.ireturn, 1) := by decide +kernel
theorem dX8_waits_21 : decode cX8_waits 21 = .ok (.aload_n 0, 1) := by decide +kernel
theorem dX8_waits_22 : decode cX8_waits 22 = .ok (.iload_n 1, 1) := by decide +kernel
theorem dX8_waits_23 : decode cX8_waits 23 = .ok (.iload_n 2, 1) := by decide +kernel
theorem dX8_waits_24 : decode cX8_waits 24 = .ok (.invokevirtual 234, 3) := by decide +kernel
theorem dX8_waits_27 : decode cX8_waits 27 = .ok (.ifCond .eq 51, 3) := by decide +kernel
theorem dX8_waits_30 : decode cX8_waits 30 = .ok (.aload_n 0, 1) := by decide +kernel
theorem dX8_waits_31 : decode cX8_waits 31 = .ok (.iload_n 1, 1) := by decide +kernel
theorem dX8_waits_32 : decode cX8_waits 32 = .ok (.iload_n 3, 1) := by decide +kernel
theorem dX8_waits_33 : decode cX8_waits 33 = .ok (.iload 4, 2) := by decide +kernel
theorem dX8_waits_35 : decode cX8_waits 35 = .ok (.invokevirtual 264, 3) := by decide +kernel
theorem dX8_waits_38 : decode cX8_waits 38 = .ok (.ifCond .eq 40, 3) := by decide +kernel
theorem dX8_waits_41 : decode cX8_waits 41 = .ok (.iload 5, 2) := by decide +kernel
theorem dX8_waits_43 : decode cX8_waits 43 = .ok (.i2l, 1) := by decide +kernel
theorem dX8_waits_44 : decode cX8_waits 44 = .ok (.lconst 0, 1) := by decide +kernel
theorem dX8_waits_45 : decode cX8_waits 45 = .ok (.ldc2_w 240, 3) := by decide +kernel
theorem dX8_waits_48 : decode cX8_waits 48 = .ok (.invokestatic 107, 3) := by decide +kernel
theorem dX8_waits_51 : decode cX8_waits 51 = .ok (.ifCond .eq 27, 3) := by decide +kernel
theorem dX8_waits_54 : decode cX8_waits 54 = .ok (.iload 6, 2) := by decide +kernel
theorem dX8_waits_56 : decode cX8_waits 56 = .ok (.i2l, 1) := by decide +kernel
theorem dX8_waits_57 : decode cX8_waits 57 = .ok (.lconst 0, 1) := by decide +kernel
theorem dX8_waits_58 : decode cX8_waits 58 = .ok (.ldc2_w 311, 3) := by decide +kernel
theorem dX8_waits_61 : decode cX8_waits 61 = .ok (.invokestatic 107, 3) := by decide +kernel
theorem dX8_waits_64 : decode cX8_waits 64 = .ok (.ifCond .eq 14, 3) := by decide +kernel
theorem dX8_waits_67 : decode cX8_waits 67 = .ok (.iload 7, 2) := by decide +kernel
theorem dX8_waits_69 : decode cX8_waits 69 = .ok (.i2l, 1) := by decide +kernel
theorem dX8_waits_70 : decode cX8_waits 70 = .ok (.lconst 0, 1) := by decide +kernel
theorem dX8_waits_71 : decode cX8_waits 71 = .ok (.lconst 1, 1) := by decide +kernel
theorem dX8_waits_72 : decode cX8_waits 72 = .ok (.invokestatic 107, 3) := by decide +kernel
theorem dX8_waits_75 : decode cX8_waits 75 = .ok (.ifCond .ne 7, 3) := by decide +kernel
theorem dX8_waits_78 : decode cX8_waits 78 = .ok (.sipush (-1002), 3) := by decide +kernel
theorem dX8_waits_81 : decode cX8_waits 81 = .ok (.ireturn, 1) := by decide +kernel
theorem dX8_waits_82 : decode cX8_waits 82 = .ok (.iload 4, 2) := by decide +kernel
theorem dX8_waits_84 : decode cX8_waits 84 = .ok (.iconst 1, 1) := by decide +kernel
theorem dX8_waits_85 : decode cX8_waits 85 = .ok (.iand, 1) := by decide +kernel
theorem dX8_waits_86 : decode cX8_waits 86 = .ok (.iconst 1, 1) := by decide +kernel
theorem dX8_waits_87 : decode cX8_waits 87 = .ok (.if_icmp .ne 7, 3) := by decide +kernel
theorem dX8_waits_90 : decode cX8_waits 90 = .ok (.sipush (-1003), 3) := by decide +kernel
theorem dX8_waits_93 : decode cX8_waits 93 = .ok (.ireturn, 1) := by decide +kernel
theorem dX8_waits_94 : decode cX8_waits 94 = .ok (.aload_n 0, 1) := by decide +kernel
theorem dX8_waits_95 : decode cX8_waits 95 = .ok (.iload_n 1, 1) := by decide +kernel
theorem dX8_waits_96 : decode cX8_waits 96 = .ok (.invokevirtual 268, 3) := by decide +kernel
theorem dX8_waits_99 : decode cX8_waits 99 = .ok (.aload_n 0, 1) := by decide +kernel
theorem dX8_waits_100 : decode cX8_waits 100 = .ok (.getfield 38, 3) := by decide +kernel
theorem dX8_waits_103 : decode cX8_waits 103 = .ok (.iload_n 2, 1) := by decide +kernel
theorem dX8_waits_104 : decode cX8_waits 104 = .ok (.iload_n 3, 1) := by decide +kernel
theorem dX8_waits_105 : decode cX8_waits 105 = .ok (.iload 4, 2) := by decide +kernel
theorem dX8_waits_107 : decode cX8_waits 107 = .ok (.invokestatic 242, 3) := by decide +kernel
theorem dX8_waits_110 : decode cX8_waits 110 = .ok (.iaload, 1) := by decide +kernel
theorem dX8_waits_111 : decode cX8_waits 111 = .ok (.istore 8, 2) := by decide +kernel
theorem dX8_waits_113 : decode cX8_waits 113 = .ok (.iload 8, 2) := by decide +kernel
theorem dX8_waits_115 : decode cX8_waits 115 = .ok (.istore 9, 2) := by decide +kernel
theorem dX8_waits_117 : decode cX8_waits 117 = .ok (.iconst 0, 1) := by decide +kernel
theorem dX8_waits_118 : decode cX8_waits 118 = .ok (.istore 10, 2) := by decide +kernel
theorem dX8_waits_120 : decode cX8_waits 120 = .ok (.iconst 1, 1) := by decide +kernel
theorem dX8_waits_121 : decode cX8_waits 121 = .ok (.istore 11, 2) := by decide +kernel
theorem dX8_waits_123 : decode cX8_waits 123 = .ok (.iload 11, 2) := by decide +kernel
theorem dX8_waits_125 : decode cX8_waits 125 = .ok (.bipush 20, 2) := by decide +kernel
theorem dX8_waits_127 : decode cX8_waits 127 = .ok (.if_icmp .gt 64, 3) := by decide +kernel
theorem dX8_waits_130 : decode cX8_waits 130 = .ok (.sipush 1000, 3) := by decide +kernel
theorem dX8_waits_133 : decode cX8_waits 133 = .ok (.iload 6, 2) := by decide +kernel
theorem dX8_waits_135 : decode cX8_waits 135 = .ok (.imul, 1) := by decide +kernel
theorem dX8_waits_136 : decode cX8_waits 136 = .ok (.iload 5, 2) := by decide +kernel
theorem dX8_waits_138 : decode cX8_waits 138 = .ok (.aload_n 0, 1) := by decide +kernel
theorem dX8_waits_139 : decode cX8_waits 139 = .ok (.iload_n 1, 1) := by decide +kernel
theorem dX8_waits_140 : decode cX8_waits 140 = .ok (.iload_n 2, 1) := by decide +kernel
theorem dX8_waits_141 : decode cX8_waits 141 = .ok (.iload_n 3, 1) := by decide +kernel
theorem dX8_waits_142 : decode cX8_waits 142 = .ok (.invokevirtual 237, 3) := by decide +kernel
theorem dX8_waits_145 : decode cX8_waits 145 = .ok (.iload 8, 2) := by decide +kernel
theorem dX8_waits_147 : decode cX8_waits 147 = .ok (.invokestatic 245, 3) := by decide +kernel
theorem dX8_waits_150 : decode cX8_waits 150 = .ok (.iadd, 1) := by decide +kernel
theorem dX8_waits_151 : decode cX8_waits 151 = .ok (.istore 8, 2) := by decide +kernel
theorem dX8_waits_153 : decode cX8_waits 153 = .ok (.iload 8, 2) := by decide +kernel
theorem dX8_waits_155 : decode cX8_waits 155 = .ok (.iload 9, 2) := by decide +kernel
theorem dX8_waits_157 : decode cX8_waits 157 = .ok (.if_icmp .ge 8, 3) := by decide +kernel
theorem dX8_waits_160 : decode cX8_waits 160 = .ok (.iload 11, 2) := by decide +kernel
theorem dX8_waits_162 : decode cX8_waits 162 = .ok (.goto 5, 3) := by decide +kernel
theorem dX8_waits_165 : decode cX8_waits 165 = .ok (.iload 10, 2) := by decide +kernel
theorem dX8_waits_167 : decode cX8_waits 167 = .ok (.istore 10, 2) := by decide +kernel
theorem dX8_waits_169 : decode cX8_waits 169 = .ok (.iload 8, 2) := by decide +kernel
theorem dX8_waits_171 : decode cX8_waits 171 = .ok (.iload 9, 2) := by decide +kernel
theorem dX8_waits_173 : decode cX8_waits 173 = .ok (.if_icmp .ge 8, 3) := by decide +kernel
theorem dX8_waits_176 : decode cX8_waits 176 = .ok (.iload 8, 2) := by decide +kernel
theorem dX8_waits_178 : decode cX8_waits 178 = .ok (.goto 5, 3) := by decide +kernel
theorem dX8_waits_181 : decode cX8_waits 181 = .ok (.iload 9, 2) := by decide +kernel
theorem dX8_waits_183 : decode cX8_waits 183 = .ok (.istore 9, 2) := by decide +kernel
theorem dX8_waits_185 : decode cX8_waits 185 = .ok (.iinc 11 1, 3) := by decide +kernel
theorem dX8_waits_188 : decode cX8_waits 188 = .ok (.goto (-65), 3) := by decide +kernel
theorem dX8_waits_191 : decode cX8_waits 191 = .ok (.iload 7, 2) := by decide +kernel
theorem dX8_waits_193 : decode cX8_waits 193 = .ok (.ifCond .ne 8, 3) := by decide +kernel
theorem dX8_waits_196 : decode cX8_waits 196 = .ok (.iload 10, 2) := by decide +kernel
theorem dX8_waits_198 : decode cX8_waits 198 = .ok (.goto 5, 3) := by decide +kernel
theorem dX8_waits_201 : decode cX8_waits 201 = .ok (.iload 9, 2) := by decide +kernel
theorem dX8_waits_203 : decode cX8_waits 203 = .ok (.ireturn, 1) := by decide +kernel
theorem f_m_boy_rows : True := trivial
theorem dX8_boy_0 : decode cX8_boy 0 = .ok (.aload_n 0, 1) := by decide +kernel
theorem dX8_boy_1 : decode cX8_boy 1 = .ok (.iload_n 1, 1) := by decide +kernel
theorem dX8_boy_2 : decode cX8_boy 2 = .ok (.invokevirtual 206, 3) := by decide +kernel
theorem dX8_boy_5 : decode cX8_boy 5 = .ok (.ifCond .ne 7, 3) := by decide +kernel
theorem dX8_boy_8 : decode cX8_boy 8 = .ok (.sipush (-1001), 3) := by decide +kernel
theorem dX8_boy_11 : decode cX8_boy 11 = .ok (.ireturn, 1) := by decide +kernel
theorem dX8_boy_12 : decode cX8_boy 12 = .ok (.aload_n 0, 1) := by decide +kernel
theorem dX8_boy_13 : decode cX8_boy 13 = .ok (.iload_n 1, 1) := by decide +kernel
theorem dX8_boy_14 : decode cX8_boy 14 = .ok (.invokevirtual 268, 3) := by decide +kernel
theorem dX8_boy_17 : decode cX8_boy 17 = .ok (.aload_n 0, 1) := by decide +kernel
theorem dX8_boy_18 : decode cX8_boy 18 = .ok (.getfield 7, 3) := by decide +kernel
theorem dX8_boy_21 : decode cX8_boy 21 = .ok (.iload_n 1, 1) := by decide +kernel
theorem dX8_boy_22 : decode cX8_boy 22 = .ok (.iaload, 1) := by decide +kernel
theorem dX8_boy_23 : decode cX8_boy 23 = .ok (.istore_n 2, 1) := by decide +kernel
theorem dX8_boy_24 : decode cX8_boy 24 = .ok (.iconst 0, 1) := by decide +kernel
theorem dX8_boy_25 : decode cX8_boy 25 = .ok (.istore_n 3, 1) := by decide +kernel
theorem dX8_boy_26 : decode cX8_boy 26 = .ok (.iload_n 3, 1) := by decide +kernel
theorem dX8_boy_27 : decode cX8_boy 27 = .ok (.bipush 50, 2) := by decide +kernel
theorem dX8_boy_29 : decode cX8_boy 29 = .ok (.if_icmp .ge 82, 3) := by decide +kernel
theorem dX8_boy_32 : decode cX8_boy 32 = .ok (.iload_n 3, 1) := by decide +kernel
theorem dX8_boy_33 : decode cX8_boy 33 = .ok (.iconst 2, 1) := by decide +kernel
theorem dX8_boy_34 : decode cX8_boy 34 = .ok (.idiv, 1) := by decide +kernel
theorem dX8_boy_35 : decode cX8_boy 35 = .ok (.istore 4, 2) := by decide +kernel
theorem dX8_boy_37 : decode cX8_boy 37 = .ok (.iload 4, 2) := by decide +kernel
theorem dX8_boy_39 : decode cX8_boy 39 = .ok (.iload_n 2, 1) := by decide +kernel
theorem dX8_boy_40 : decode cX8_boy 40 = .ok (.if_icmp .ge 34, 3) := by decide +kernel
theorem dX8_boy_43 : decode cX8_boy 43 = .ok (.aload_n 0, 1) := by decide +kernel
theorem dX8_boy_44 : decode cX8_boy 44 = .ok (.iload_n 1, 1) := by decide +kernel
theorem dX8_boy_45 : decode cX8_boy 45 = .ok (.iconst 0, 1) := by decide +kernel
theorem dX8_boy_46 : decode cX8_boy 46 = .ok (.iload 4, 2) := by decide +kernel
theorem dX8_boy_48 : decode cX8_boy 48 = .ok (.iload_n 2, 1) := by decide +kernel
theorem dX8_boy_49 : decode cX8_boy 49 = .ok (.if_icmp .ge 8, 3) := by decide +kernel
theorem dX8_boy_52 : decode cX8_boy 52 = .ok (.iload 4, 2) := by decide +kernel
theorem dX8_boy_54 : decode cX8_boy 54 = .ok (.goto 4, 3) := by decide +kernel
theorem dX8_boy_58 : decode cX8_boy 58 = .ok (.invokevirtual 237, 3) := by decide +kernel
theorem dX8_boy_61 : decode cX8_boy 61 = .ok (.aload_n 0, 1) := by decide +kernel
theorem dX8_boy_62 : decode cX8_boy 62 = .ok (.getfield 47, 3) := by decide +kernel
theorem dX8_boy_65 : decode cX8_boy 65 = .ok (.iconst 0, 1) := by decide +kernel
theorem dX8_boy_66 : decode cX8_boy 66 = .ok (.iaload, 1) := by decide +kernel
theorem dX8_boy_67 : decode cX8_boy 67 = .ok (.if_icmp .ge 7, 3) := by decide +kernel
theorem dX8_boy_70 : decode cX8_boy 70 = .ok (.iconst 1, 1) := by decide +kernel
theorem dX8_boy_71 : decode cX8_boy 71 = .ok (.goto 4, 3) := by decide +kernel
theorem dX8_boy_74 : decode cX8_boy 74 = .ok (.iconst 0, 1) := by decide +kernel
theorem dX8_boy_75 : decode cX8_boy 75 = .ok (.istore 5, 2) := by decide +kernel
theorem dX8_boy_77 : decode cX8_boy 77 = .ok (.aload_n 0, 1) := by decide +kernel
theorem dX8_boy_78 : decode cX8_boy 78 = .ok (.getfield 78, 3) := by decide +kernel
theorem dX8_boy_81 : decode cX8_boy 81 = .ok (.iload_n 3, 1) := by decide +kernel
theorem dX8_boy_82 : decode cX8_boy 82 = .ok (.iload 5, 2) := by decide +kernel
theorem dX8_boy_84 : decode cX8_boy 84 = .ok (.ifCond .eq 14, 3) := by decide +kernel
theorem dX8_boy_87 : decode cX8_boy 87 = .ok (.aload_n 0, 1) := by decide +kernel
theorem dX8_boy_88 : decode cX8_boy 88 = .ok (.iload_n 1, 1) := by decide +kernel
theorem dX8_boy_89 : decode cX8_boy 89 = .ok (.iconst 0, 1) := by decide +kernel
theorem dX8_boy_90 : decode cX8_boy 90 = .ok (.iload 4, 2) := by decide +kernel
theorem dX8_boy_92 : decode cX8_boy 92 = .ok (.invokevirtual 237, 3) := by decide +kernel
theorem dX8_boy_95 : decode cX8_boy 95 = .ok (.goto 9, 3) := by decide +kernel
theorem dX8_boy_98 : decode cX8_boy 98 = .ok (.aload_n 0, 1) := by decide +kernel
theorem dX8_boy_99 : decode cX8_boy 99 = .ok (.getfield 47, 3) := by decide +kernel
theorem dX8_boy_102 : decode cX8_boy 102 = .ok (.iconst 0, 1) := by decide +kernel
theorem dX8_boy_103 : decode cX8_boy 103 = .ok (.iaload, 1) := by decide +kernel
theorem dX8_boy_104 : decode cX8_boy 104 = .ok (.iastore, 1) := by decide +kernel
theorem dX8_boy_105 : decode cX8_boy 105 = .ok (.iinc 3 1, 3) := by decide +kernel
theorem dX8_boy_108 : decode cX8_boy 108 = .ok (.goto (-82), 3) := by decide +kernel
theorem dX8_boy_111 : decode cX8_boy 111 = .ok (.iload_n 2, 1) := by decide +kernel
theorem dX8_boy_112 : decode cX8_boy 112 = .ok (.iconst 1, 1) := by decide +kernel
theorem dX8_boy_113 : decode cX8_boy 113 = .ok (.isub, 1) := by decide +kernel
theorem dX8_boy_114 : decode cX8_boy 114 = .ok (.istore_n 3, 1) := by decide +kernel
theorem dX8_boy_115 : decode cX8_boy 115 = .ok (.iload_n 3, 1) := by decide +kernel
theorem dX8_boy_116 : decode cX8_boy 116 = .ok (.ifCond .lt 154, 3) := by decide +kernel
theorem dX8_boy_119 : decode cX8_boy 119 = .ok (.iconst 0, 1) := by decide +kernel
theorem dX8_boy_120 : decode cX8_boy 120 = .ok (.istore 4, 2) := by decide +kernel
theorem dX8_boy_122 : decode cX8_boy 122 = .ok (.iload 4, 2) := by decide +kernel
theorem dX8_boy_124 : decode cX8_boy 124 = .ok (.bipush 50, 2) := by decide +kernel
theorem dX8_boy_126 : decode cX8_boy 126 = .ok (.if_icmp .ge 108, 3) := by decide +kernel
theorem dX8_boy_129 : decode cX8_boy 129 = .ok (.iload 4, 2) := by decide +kernel
theorem dX8_boy_131 : decode cX8_boy 131 = .ok (.iconst 2, 1) := by decide +kernel
theorem dX8_boy_132 : decode cX8_boy 132 = .ok (.idiv, 1) := by decide +kernel
theorem dX8_boy_133 : decode cX8_boy 133 = .ok (.istore 5, 2) := by decide +kernel
theorem dX8_boy_135 : decode cX8_boy 135 = .ok (.iload 5, 2) := by decide +kernel
theorem dX8_boy_137 : decode cX8_boy 137 = .ok (.iload_n 2, 1) := by decide +kernel
theorem dX8_boy_138 : decode cX8_boy 138 = .ok (.if_icmp .ge 21, 3) := by decide +kernel
theorem dX8_boy_141 : decode cX8_boy 141 = .ok (.aload_n 0, 1) := by decide +kernel
theorem dX8_boy_142 : decode cX8_boy 142 = .ok (.iload_n 1, 1) := by decide +kernel
theorem dX8_boy_143 : decode cX8_boy 143 = .ok (.iconst 0, 1) := by decide +kernel
theorem dX8_boy_144 : decode cX8_boy 144 = .ok (.iload_n 3, 1) := by decide +kernel
theorem dX8_boy_145 : decode cX8_boy 145 = .ok (.invokevirtual 237, 3) := by decide +kernel
theorem dX8_boy_148 : decode cX8_boy 148 = .ok (.aload_n 0, 1) := by decide +kernel
theorem dX8_boy_149 : decode cX8_boy 149 = .ok (.iload_n 1, 1) := by decide +kernel
theorem dX8_boy_150 : decode cX8_boy 150 = .ok (.iconst 0, 1) := by decide +kernel
theorem dX8_boy_151 : decode cX8_boy 151 = .ok (.iload 5, 2) := by decide +kernel
theorem dX8_boy_153 : decode cX8_boy 153 = .ok (.invokevirtual 237, 3) := by decide +kernel
theorem dX8_boy_156 : decode cX8_boy 156 = .ok (.if_icmp .ge 7, 3) := by decide +kernel
theorem dX8_boy_159 : decode cX8_boy 159 = .ok (.iconst 1, 1) := by decide +kernel
theorem dX8_boy_160 : decode cX8_boy 160 = .ok (.goto 4, 3) := by decide +kernel
theorem dX8_boy_163 : decode cX8_boy 163 = .ok (.iconst 0, 1) := by decide +kernel
theorem dX8_boy_164 : decode cX8_boy 164 = .ok (.istore 6, 2) := by decide +kernel
theorem dX8_boy_166 : decode cX8_boy 166 = .ok (.aload_n 0, 1) := by decide +kernel
theorem dX8_boy_167 : decode cX8_boy 167 = .ok (.getfield 78, 3) := by decide +kernel
theorem dX8_boy_170 : decode cX8_boy 170 = .ok (.iconst 2, 1) := by decide +kernel
theorem dX8_boy_171 : decode cX8_boy 171 = .ok (.iload 6, 2) := by decide +kernel
theorem dX8_boy_173 : decode cX8_boy 173 = .ok (.ifCond .eq 7, 3) := by decide +kernel
theorem dX8_boy_176 : decode cX8_boy 176 = .ok (.iload_n 3, 1) := by decide +kernel
theorem dX8_boy_177 : decode cX8_boy 177 = .ok (.goto 5, 3) := by decide +kernel
theorem dX8_boy_180 : decode cX8_boy 180 = .ok (.iload 5, 2) := by decide +kernel
theorem dX8_boy_182 : decode cX8_boy 182 = .ok (.imul, 1) := by decide +kernel
theorem dX8_boy_183 : decode cX8_boy 183 = .ok (.iconst 1, 1) := by decide +kernel
theorem dX8_boy_184 : decode cX8_boy 184 = .ok (.iadd, 1) := by decide +kernel
theorem dX8_boy_185 : decode cX8_boy 185 = .ok (.iaload, 1) := by decide +kernel
theorem dX8_boy_186 : decode cX8_boy 186 = .ok (.istore 7, 2) := by decide +kernel
theorem dX8_boy_188 : decode cX8_boy 188 = .ok (.aload_n 0, 1) := by decide +kernel
theorem dX8_boy_189 : decode cX8_boy 189 = .ok (.getfield 81, 3) := by decide +kernel
theorem dX8_boy_192 : decode cX8_boy 192 = .ok (.iload 4, 2) := by decide +kernel
theorem dX8_boy_194 : decode cX8_boy 194 = .ok (.aload_n 0, 1) := by decide +kernel
theorem dX8_boy_195 : decode cX8_boy 195 = .ok (.iload_n 1, 1) := by decide +kernel
theorem dX8_boy_196 : decode cX8_boy 196 = .ok (.iload_n 3, 1) := by decide +kernel
theorem dX8_boy_197 : decode cX8_boy 197 = .ok (.iload 4, 2) := by decide +kernel
theorem dX8_boy_199 : decode cX8_boy 199 = .ok (.iconst 2, 1) := by decide +kernel
theorem dX8_boy_200 : decode cX8_boy 200 = .ok (.irem, 1) := by decide +kernel
theorem dX8_boy_201 : decode cX8_boy 201 = .ok (.iconst 1, 1) := by decide +kernel
theorem dX8_boy_202 : decode cX8_boy 202 = .ok (.if_icmp .ne 7, 3) := by decide +kernel
theorem dX8_boy_205 : decode cX8_boy 205 = .ok (.iconst 1, 1) := by decide +kernel
theorem dX8_boy_206 : decode cX8_boy 206 = .ok (.goto 4, 3) := by decide +kernel
theorem dX8_boy_209 : decode cX8_boy 209 = .ok (.iconst 0, 1) := by decide +kernel
theorem dX8_boy_210 : decode cX8_boy 210 = .ok (.invokevirtual 219, 3) := by decide +kernel
theorem dX8_boy_213 : decode cX8_boy 213 = .ok (.iload 7, 2) := by decide +kernel
theorem dX8_boy_215 : decode cX8_boy 215 = .ok (.aload_n 0, 1) := by decide +kernel
theorem dX8_boy_216 : decode cX8_boy 216 = .ok (.getfield 78, 3) := by decide +kernel
theorem dX8_boy_219 : decode cX8_boy 219 = .ok (.iconst 2, 1) := by decide +kernel
theorem dX8_boy_220 : decode cX8_boy 220 = .ok (.iload 5, 2) := by decide +kernel
theorem dX8_boy_222 : decode cX8_boy 222 = .ok (.imul, 1) := by decide +kernel
theorem dX8_boy_223 : decode cX8_boy 223 = .ok (.iaload, 1) := by decide +kernel
theorem dX8_boy_224 : decode cX8_boy 224 = .ok (.invokestatic 245, 3) := by decide +kernel
theorem dX8_boy_227 : decode cX8_boy 227 = .ok (.iastore, 1) := by decide +kernel
theorem dX8_boy_228 : decode cX8_boy 228 = .ok (.iinc 4 1, 3) := by decide +kernel
theorem dX8_boy_231 : decode cX8_boy 231 = .ok (.goto (-109), 3) := by decide +kernel
theorem dX8_boy_234 : decode cX8_boy 234 = .ok (.iconst 0, 1) := by decide +kernel
theorem dX8_boy_235 : decode cX8_boy 235 = .ok (.istore 4, 2) := by decide +kernel
theorem dX8_boy_237 : decode cX8_boy 237 = .ok (.iload 4, 2) := by decide +kernel
theorem dX8_boy_239 : decode cX8_boy 239 = .ok (.bipush 50, 2) := by decide +kernel
theorem dX8_boy_241 : decode cX8_boy 241 = .ok (.if_icmp .ge 23, 3) := by decide +kernel
theorem dX8_boy_244 : decode cX8_boy 244 = .ok (.aload_n 0, 1) := by decide +kernel
theorem dX8_boy_245 : decode cX8_boy 245 = .ok (.getfield 78, 3) := by decide +kernel
theorem dX8_boy_248 : decode cX8_boy 248 = .ok (.iload 4, 2) := by decide +kernel
theorem dX8_boy_250 : decode cX8_boy 250 = .ok (.aload_n 0, 1) := by decide +kernel
theorem dX8_boy_251 : decode cX8_boy 251 = .ok (.getfield 81, 3) := by decide +kernel
theorem dX8_boy_254 : decode cX8_boy 254 = .ok (.iload 4, 2) := by decide +kernel
theorem dX8_boy_256 : decode cX8_boy 256 = .ok (.iaload, 1) := by decide +kernel
theorem dX8_boy_257 : decode cX8_boy 257 = .ok (.iastore, 1) := by decide +kernel
theorem dX8_boy_258 : decode cX8_boy 258 = .ok (.iinc 4 1, 3) := by decide +kernel
theorem dX8_boy_261 : decode cX8_boy 261 = .ok (.goto (-24), 3) := by decide +kernel
theorem dX8_boy_264 : decode cX8_boy 264 = .ok (.iinc 3 (-1), 3) := by decide +kernel
theorem dX8_boy_267 : decode cX8_boy 267 = .ok (.goto (-152), 3) := by decide +kernel
theorem dX8_boy_270 : decode cX8_boy 270 = .ok (.aload_n 0, 1) := by decide +kernel
theorem dX8_boy_271 : decode cX8_boy 271 = .ok (.getfield 78, 3) := by decide +kernel
theorem dX8_boy_274 : decode cX8_boy 274 = .ok (.bipush 48, 2) := by decide +kernel
theorem dX8_boy_276 : decode cX8_boy 276 = .ok (.iaload, 1) := by decide +kernel
theorem dX8_boy_277 : decode cX8_boy 277 = .ok (.ireturn, 1) := by decide +kernel

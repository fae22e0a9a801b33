theorem f_x_seed_rows : True := trivial
theorem dX7_seed_0 : decode cX7_seed 0 = .ok (.iload_n 1, 1) := by decide +kernel
theorem dX7_seed_1 : decode cX7_seed 1 = .ok (.ifCond .ge 7, 3) := by decide +kernel
theorem dX7_seed_4 : decode cX7_seed 4 = .ok (.sipush (-1002), 3) := by decide +kernel
theorem dX7_seed_7 : decode cX7_seed 7 = .ok (.ireturn, 1) := by decide +kernel
theorem dX7_seed_8 : decode cX7_seed 8 = .ok (.aload_n 0, 1) := by decide +kernel
theorem dX7_seed_9 : decode cX7_seed 9 = .ok (.getfield 49, 3) := by decide +kernel
theorem dX7_seed_12 : decode cX7_seed 12 = .ok (.getfield 266, 3) := by decide +kernel
theorem dX7_seed_15 : decode cX7_seed 15 = .ok (.istore_n 2, 1) := by decide +kernel
theorem dX7_seed_16 : decode cX7_seed 16 = .ok (.aload_n 0, 1) := by decide +kernel
theorem dX7_seed_17 : decode cX7_seed 17 = .ok (.getfield 49, 3) := by decide +kernel
theorem dX7_seed_20 : decode cX7_seed 20 = .ok (.iload_n 1, 1) := by decide +kernel
theorem dX7_seed_21 : decode cX7_seed 21 = .ok (.putfield 266, 3) := by decide +kernel
theorem dX7_seed_24 : decode cX7_seed 24 = .ok (.iload_n 2, 1) := by decide +kernel
theorem dX7_seed_25 : decode cX7_seed 25 = .ok (.ireturn, 1) := by decide +kernel
theorem f_x_evening_rows : True := trivial
theorem dX7_evening_0 : decode cX7_evening 0 = .ok (.aload_n 0, 1) := by decide +kernel
theorem dX7_evening_1 : decode cX7_evening 1 = .ok (.iload_n 1, 1) := by decide +kernel
theorem dX7_evening_2 : decode cX7_evening 2 = .ok (.invokevirtual 108, 3) := by decide +kernel
theorem dX7_evening_5 : decode cX7_evening 5 = .ok (.ifCond .eq 11, 3) := by decide +kernel
theorem dX7_evening_8 : decode cX7_evening 8 = .ok (.aload_n 0, 1) := by decide +kernel
theorem dX7_evening_9 : decode cX7_evening 9 = .ok (.iload_n 2, 1) := by decide +kernel
theorem dX7_evening_10 : decode cX7_evening 10 = .ok (.invokevirtual 169, 3) := by decide +kernel
theorem dX7_evening_13 : decode cX7_evening 13 = .ok (.ifCond .ne 7, 3) := by decide +kernel
theorem dX7_evening_16 : decode cX7_evening 16 = .ok (.sipush (-1001), 3) := by decide +kernel
theorem dX7_evening_19 : decode cX7_evening 19 = .ok (.ireturn, 1) := by decide +kernel
theorem dX7_evening_20 : decode cX7_evening 20 = .ok (.iload_n 3, 1) := by decide +kernel
theorem dX7_evening_21 : decode cX7_evening 21 = .ok (.iconst 1, 1) := by decide +kernel
theorem dX7_evening_22 : decode cX7_evening 22 = .ok (.bipush 50, 2) := by decide +kernel
theorem dX7_evening_24 : decode cX7_evening 24 = .ok (.invokestatic 112, 3) := by decide +kernel
theorem dX7_evening_27 : decode cX7_evening 27 = .ok (.ifCond .ne 7, 3) := by decide +kernel
theorem dX7_evening_30 : decode cX7_evening 30 = .ok (.sipush (-1002), 3) := by decide +kernel
theorem dX7_evening_33 : decode cX7_evening 33 = .ok (.ireturn, 1) := by decide +kernel
theorem dX7_evening_34 : decode cX7_evening 34 = .ok (.lconst 0, 1) := by decide +kernel
theorem dX7_evening_35 : decode cX7_evening 35 = .ok (.lstore 4, 2) := by decide +kernel
theorem dX7_evening_37 : decode cX7_evening 37 = .ok (.iconst 0, 1) := by decide +kernel
theorem dX7_evening_38 : decode cX7_evening 38 = .ok (.istore 6, 2) := by decide +kernel
theorem dX7_evening_40 : decode cX7_evening 40 = .ok (.iload 6, 2) := by decide +kernel
theorem dX7_evening_42 : decode cX7_evening 42 = .ok (.iload_n 3, 1) := by decide +kernel
theorem dX7_evening_43 : decode cX7_evening 43 = .ok (.if_icmp .ge 38, 3) := by decide +kernel
theorem dX7_evening_46 : decode cX7_evening 46 = .ok (.lload 4, 2) := by decide +kernel
theorem dX7_evening_48 : decode cX7_evening 48 = .ok (.aload_n 0, 1) := by decide +kernel
theorem dX7_evening_49 : decode cX7_evening 49 = .ok (.getfield 64, 3) := by decide +kernel
theorem dX7_evening_52 : decode cX7_evening 52 = .ok (.aload_n 0, 1) := by decide +kernel
theorem dX7_evening_53 : decode cX7_evening 53 = .ok (.getfield 18, 3) := by decide +kernel
theorem dX7_evening_56 : decode cX7_evening 56 = .ok (.iload_n 1, 1) := by decide +kernel
theorem dX7_evening_57 : decode cX7_evening 57 = .ok (.aaload, 1) := by decide +kernel
theorem dX7_evening_58 : decode cX7_evening 58 = .ok (.aload_n 0, 1) := by decide +kernel
theorem dX7_evening_59 : decode cX7_evening 59 = .ok (.getfield 35, 3) := by decide +kernel
theorem dX7_evening_62 : decode cX7_evening 62 = .ok (.iload_n 2, 1) := by decide +kernel
theorem dX7_evening_63 : decode cX7_evening 63 = .ok (.aaload, 1) := by decide +kernel
theorem dX7_evening_64 : decode cX7_evening 64 = .ok (.aload_n 0, 1) := by decide +kernel
theorem dX7_evening_65 : decode cX7_evening 65 = .ok (.getfield 49, 3) := by decide +kernel
theorem dX7_evening_68 : decode cX7_evening 68 = .ok (.invokevirtual 269, 3) := by decide +kernel
theorem dX7_evening_71 : decode cX7_evening 71 = .ok (.i2l, 1) := by decide +kernel
theorem dX7_evening_72 : decode cX7_evening 72 = .ok (.ladd, 1) := by decide +kernel
theorem dX7_evening_73 : decode cX7_evening 73 = .ok (.lstore 4, 2) := by decide +kernel
theorem dX7_evening_75 : decode cX7_evening 75 = .ok (.iinc 6 1, 3) := by decide +kernel
theorem dX7_evening_78 : decode cX7_evening 78 = .ok (.goto (-38), 3) := by decide +kernel
theorem dX7_evening_81 : decode cX7_evening 81 = .ok (.lload 4, 2) := by decide +kernel
theorem dX7_evening_83 : decode cX7_evening 83 = .ok (.ldc2_w 273, 3) := by decide +kernel
theorem dX7_evening_86 : decode cX7_evening 86 = .ok (.ldiv, 1) := by decide +kernel
theorem dX7_evening_87 : decode cX7_evening 87 = .ok (.l2i, 1) := by decide +kernel
theorem dX7_evening_88 : decode cX7_evening 88 = .ok (.ireturn, 1) := by decide +kernel
theorem f_x_keep_rows : True := trivial
theorem dX7_keep_0 : decode cX7_keep 0 = .ok (.iload_n 1, 1) := by decide +kernel
theorem dX7_keep_1 : decode cX7_keep 1 = .ok (.iconst 0, 1) := by decide +kernel
theorem dX7_keep_2 : decode cX7_keep 2 = .ok (.iconst 1, 1) := by decide +kernel
theorem dX7_keep_3 : decode cX7_keep 3 = .ok (.invokestatic 112, 3) := by decide +kernel
theorem dX7_keep_6 : decode cX7_keep 6 = .ok (.ifCond .ne 7, 3) := by decide +kernel
theorem dX7_keep_9 : decode cX7_keep 9 = .ok (.sipush (-1001), 3) := by decide +kernel
theorem dX7_keep_12 : decode cX7_keep 12 = .ok (.ireturn, 1) := by decide +kernel
theorem dX7_keep_13 : decode cX7_keep 13 = .ok (.aload_n 0, 1) := by decide +kernel
theorem dX7_keep_14 : decode cX7_keep 14 = .ok (.getfield 53, 3) := by decide +kernel
theorem dX7_keep_17 : decode cX7_keep 17 = .ok (.iload_n 1, 1) := by decide +kernel
theorem dX7_keep_18 : decode cX7_keep 18 = .ok (.aaload, 1) := by decide +kernel
theorem dX7_keep_19 : decode cX7_keep 19 = .ok (.aload_n 0, 1) := by decide +kernel
theorem dX7_keep_20 : decode cX7_keep 20 = .ok (.getfield 49, 3) := by decide +kernel
theorem dX7_keep_23 : decode cX7_keep 23 = .ok (.invokevirtual 280, 3) := by decide +kernel
theorem dX7_keep_26 : decode cX7_keep 26 = .ok (.aload_n 0, 1) := by decide +kernel
theorem dX7_keep_27 : decode cX7_keep 27 = .ok (.getfield 57, 3) := by decide +kernel
theorem dX7_keep_30 : decode cX7_keep 30 = .ok (.iload_n 1, 1) := by decide +kernel
theorem dX7_keep_31 : decode cX7_keep 31 = .ok (.iconst 1, 1) := by decide +kernel
theorem dX7_keep_32 : decode cX7_keep 32 = .ok (.bastore, 1) := by decide +kernel
theorem dX7_keep_33 : decode cX7_keep 33 = .ok (.iconst 1, 1) := by decide +kernel
theorem dX7_keep_34 : decode cX7_keep 34 = .ok (.ireturn, 1) := by decide +kernel
theorem f_x_goBack_rows : True := trivial
theorem dX7_goBack_0 : decode cX7_goBack 0 = .ok (.iload_n 1, 1) := by decide +kernel
theorem dX7_goBack_1 : decode cX7_goBack 1 = .ok (.iconst 0, 1) := by decide +kernel
theorem dX7_goBack_2 : decode cX7_goBack 2 = .ok (.iconst 1, 1) := by decide +kernel
theorem dX7_goBack_3 : decode cX7_goBack 3 = .ok (.invokestatic 112, 3) := by decide +kernel
theorem dX7_goBack_6 : decode cX7_goBack 6 = .ok (.ifCond .ne 7, 3) := by decide +kernel
theorem dX7_goBack_9 : decode cX7_goBack 9 = .ok (.sipush (-1001), 3) := by decide +kernel
theorem dX7_goBack_12 : decode cX7_goBack 12 = .ok (.ireturn, 1) := by decide +kernel
theorem dX7_goBack_13 : decode cX7_goBack 13 = .ok (.aload_n 0, 1) := by decide +kernel
theorem dX7_goBack_14 : decode cX7_goBack 14 = .ok (.getfield 57, 3) := by decide +kernel
theorem dX7_goBack_17 : decode cX7_goBack 17 = .ok (.iload_n 1, 1) := by decide +kernel
theorem dX7_goBack_18 : decode cX7_goBack 18 = .ok (.baload, 1) := by decide +kernel
theorem dX7_goBack_19 : decode cX7_goBack 19 = .ok (.ifCond .ne 7, 3) := by decide +kernel
theorem dX7_goBack_22 : decode cX7_goBack 22 = .ok (.sipush (-1003), 3) := by decide +kernel
theorem dX7_goBack_25 : decode cX7_goBack 25 = .ok (.ireturn, 1) := by decide +kernel
theorem dX7_goBack_26 : decode cX7_goBack 26 = .ok (.aload_n 0, 1) := by decide +kernel
theorem dX7_goBack_27 : decode cX7_goBack 27 = .ok (.getfield 49, 3) := by decide +kernel
theorem dX7_goBack_30 : decode cX7_goBack 30 = .ok (.aload_n 0, 1) := by decide +kernel
theorem dX7_goBack_31 : decode cX7_goBack 31 = .ok (.getfield 53, 3) := by decide +kernel
theorem dX7_goBack_34 : decode cX7_goBack 34 = .ok (.iload_n 1, 1) := by decide +kernel
theorem dX7_goBack_35 : decode cX7_goBack 35 = .ok (.aaload, 1) := by decide +kernel
theorem dX7_goBack_36 : decode cX7_goBack 36 = .ok (.invokevirtual 280, 3) := by decide +kernel
theorem dX7_goBack_39 : decode cX7_goBack 39 = .ok (.iconst 1, 1) := by decide +kernel
theorem dX7_goBack_40 : decode cX7_goBack 40 = .ok (.ireturn, 1) := by decide +kernel

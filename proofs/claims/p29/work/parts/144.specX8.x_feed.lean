theorem f_x_feed_rows : True := trivial
theorem dX7_feed_0 : decode cX7_feed 0 = .ok (.iload_n 1, 1) := by decide +kernel
theorem dX7_feed_1 : decode cX7_feed 1 = .ok (.iconst 1, 1) := by decide +kernel
theorem dX7_feed_2 : decode cX7_feed 2 = .ok (.if_icmp .lt 9, 3) := by decide +kernel
theorem dX7_feed_5 : decode cX7_feed 5 = .ok (.iload_n 1, 1) := by decide +kernel
theorem dX7_feed_6 : decode cX7_feed 6 = .ok (.bipush 8, 2) := by decide +kernel
theorem dX7_feed_8 : decode cX7_feed 8 = .ok (.if_icmp .le 7, 3) := by decide +kernel
theorem dX7_feed_11 : decode cX7_feed 11 = .ok (.sipush (-1002), 3) := by decide +kernel
theorem dX7_feed_14 : decode cX7_feed 14 = .ok (.ireturn, 1) := by decide +kernel
theorem dX7_feed_15 : decode cX7_feed 15 = .ok (.aload_n 0, 1) := by decide +kernel
theorem dX7_feed_16 : decode cX7_feed 16 = .ok (.getfield 12, 3) := by decide +kernel
theorem dX7_feed_19 : decode cX7_feed 19 = .ok (.getfield 81, 3) := by decide +kernel
theorem dX7_feed_22 : decode cX7_feed 22 = .ok (.iload_n 1, 1) := by decide +kernel
theorem dX7_feed_23 : decode cX7_feed 23 = .ok (.iadd, 1) := by decide +kernel
theorem dX7_feed_24 : decode cX7_feed 24 = .ok (.sipush 240, 3) := by decide +kernel
theorem dX7_feed_27 : decode cX7_feed 27 = .ok (.if_icmp .le 7, 3) := by decide +kernel
theorem dX7_feed_30 : decode cX7_feed 30 = .ok (.sipush (-1004), 3) := by decide +kernel
theorem dX7_feed_33 : decode cX7_feed 33 = .ok (.ireturn, 1) := by decide +kernel
theorem dX7_feed_34 : decode cX7_feed 34 = .ok (.iload_n 1, 1) := by decide +kernel
theorem dX7_feed_35 : decode cX7_feed 35 = .ok (.iconst 1, 1) := by decide +kernel
theorem dX7_feed_36 : decode cX7_feed 36 = .ok (.isub, 1) := by decide +kernel
theorem dX7_feed_37 : decode cX7_feed 37 = .ok (.istore 4, 2) := by decide +kernel
theorem dX7_feed_39 : decode cX7_feed 39 = .ok (.iload 4, 2) := by decide +kernel
theorem dX7_feed_41 : decode cX7_feed 41 = .ok (.ifCond .lt 25, 3) := by decide +kernel
theorem dX7_feed_44 : decode cX7_feed 44 = .ok (.aload_n 0, 1) := by decide +kernel
theorem dX7_feed_45 : decode cX7_feed 45 = .ok (.getfield 12, 3) := by decide +kernel
theorem dX7_feed_48 : decode cX7_feed 48 = .ok (.lload_n 2, 1) := by decide +kernel
theorem dX7_feed_49 : decode cX7_feed 49 = .ok (.bipush 8, 2) := by decide +kernel
theorem dX7_feed_51 : decode cX7_feed 51 = .ok (.iload 4, 2) := by decide +kernel
theorem dX7_feed_53 : decode cX7_feed 53 = .ok (.imul, 1) := by decide +kernel
theorem dX7_feed_54 : decode cX7_feed 54 = .ok (.lshr, 1) := by decide +kernel
theorem dX7_feed_55 : decode cX7_feed 55 = .ok (.l2i, 1) := by decide +kernel
theorem dX7_feed_56 : decode cX7_feed 56 = .ok (.i2b, 1) := by decide +kernel
theorem dX7_feed_57 : decode cX7_feed 57 = .ok (.invokevirtual 84, 3) := by decide +kernel
theorem dX7_feed_60 : decode cX7_feed 60 = .ok (.iinc 4 (-1), 3) := by decide +kernel
theorem dX7_feed_63 : decode cX7_feed 63 = .ok (.goto (-24), 3) := by decide +kernel
theorem dX7_feed_66 : decode cX7_feed 66 = .ok (.aload_n 0, 1) := by decide +kernel
theorem dX7_feed_67 : decode cX7_feed 67 = .ok (.getfield 12, 3) := by decide +kernel
theorem dX7_feed_70 : decode cX7_feed 70 = .ok (.getfield 81, 3) := by decide +kernel
theorem dX7_feed_73 : decode cX7_feed 73 = .ok (.ireturn, 1) := by decide +kernel
theorem f_x_street_rows : True := trivial
theorem dX7_street_0 : decode cX7_street 0 = .ok (.iload_n 1, 1) := by decide +kernel
theorem dX7_street_1 : decode cX7_street 1 = .ok (.ifCond .lt 8, 3) := by decide +kernel
theorem dX7_street_4 : decode cX7_street 4 = .ok (.iload_n 1, 1) := by decide +kernel
theorem dX7_street_5 : decode cX7_street 5 = .ok (.iconst 3, 1) := by decide +kernel
theorem dX7_street_6 : decode cX7_street 6 = .ok (.if_icmp .lt 7, 3) := by decide +kernel
theorem dX7_street_9 : decode cX7_street 9 = .ok (.sipush (-1001), 3) := by decide +kernel
theorem dX7_street_12 : decode cX7_street 12 = .ok (.ireturn, 1) := by decide +kernel
theorem dX7_street_13 : decode cX7_street 13 = .ok (.aload_n 0, 1) := by decide +kernel
theorem dX7_street_14 : decode cX7_street 14 = .ok (.getfield 12, 3) := by decide +kernel
theorem dX7_street_17 : decode cX7_street 17 = .ok (.invokevirtual 88, 3) := by decide +kernel
theorem dX7_street_20 : decode cX7_street 20 = .ok (.aload_n 0, 1) := by decide +kernel
theorem dX7_street_21 : decode cX7_street 21 = .ok (.getfield 29, 3) := by decide +kernel
theorem dX7_street_24 : decode cX7_street 24 = .ok (.aload_n 0, 1) := by decide +kernel
theorem dX7_street_25 : decode cX7_street 25 = .ok (.getfield 12, 3) := by decide +kernel
theorem dX7_street_28 : decode cX7_street 28 = .ok (.invokevirtual 91, 3) := by decide +kernel
theorem dX7_street_31 : decode cX7_street 31 = .ok (.aload_n 0, 1) := by decide +kernel
theorem dX7_street_32 : decode cX7_street 32 = .ok (.invokevirtual 95, 3) := by decide +kernel
theorem dX7_street_35 : decode cX7_street 35 = .ok (.istore_n 2, 1) := by decide +kernel
theorem dX7_street_36 : decode cX7_street 36 = .ok (.iload_n 2, 1) := by decide +kernel
theorem dX7_street_37 : decode cX7_street 37 = .ok (.ifCond .ge 5, 3) := by decide +kernel
theorem dX7_street_40 : decode cX7_street 40 = .ok (.iload_n 2, 1) := by decide +kernel
theorem dX7_street_41 : decode cX7_street 41 = .ok (.ireturn, 1) := by decide +kernel
theorem dX7_street_42 : decode cX7_street 42 = .ok (.aload_n 0, 1) := by decide +kernel
theorem dX7_street_43 : decode cX7_street 43 = .ok (.getfield 18, 3) := by decide +kernel
theorem dX7_street_46 : decode cX7_street 46 = .ok (.iload_n 1, 1) := by decide +kernel
theorem dX7_street_47 : decode cX7_street 47 = .ok (.aaload, 1) := by decide +kernel
theorem dX7_street_48 : decode cX7_street 48 = .ok (.aload_n 0, 1) := by decide +kernel
theorem dX7_street_49 : decode cX7_street 49 = .ok (.getfield 29, 3) := by decide +kernel
theorem dX7_street_52 : decode cX7_street 52 = .ok (.invokevirtual 99, 3) := by decide +kernel
theorem dX7_street_55 : decode cX7_street 55 = .ok (.aload_n 0, 1) := by decide +kernel
theorem dX7_street_56 : decode cX7_street 56 = .ok (.getfield 24, 3) := by decide +kernel
theorem dX7_street_59 : decode cX7_street 59 = .ok (.iload_n 1, 1) := by decide +kernel
theorem dX7_street_60 : decode cX7_street 60 = .ok (.aaload, 1) := by decide +kernel
theorem dX7_street_61 : decode cX7_street 61 = .ok (.invokevirtual 102, 3) := by decide +kernel
theorem dX7_street_64 : decode cX7_street 64 = .ok (.aload_n 0, 1) := by decide +kernel
theorem dX7_street_65 : decode cX7_street 65 = .ok (.getfield 18, 3) := by decide +kernel
theorem dX7_street_68 : decode cX7_street 68 = .ok (.iload_n 1, 1) := by decide +kernel
theorem dX7_street_69 : decode cX7_street 69 = .ok (.aaload, 1) := by decide +kernel
theorem dX7_street_70 : decode cX7_street 70 = .ok (.invokevirtual 105, 3) := by decide +kernel
theorem dX7_street_73 : decode cX7_street 73 = .ok (.ireturn, 1) := by decide +kernel
theorem f_x_rule_rows : True := trivial
theorem dX7_rule_0 : decode cX7_rule 0 = .ok (.aload_n 0, 1) := by decide +kernel
theorem dX7_rule_1 : decode cX7_rule 1 = .ok (.getfield 12, 3) := by decide +kernel
theorem dX7_rule_4 : decode cX7_rule 4 = .ok (.getfield 81, 3) := by decide +kernel
theorem dX7_rule_7 : decode cX7_rule 7 = .ok (.bipush 80, 2) := by decide +kernel
theorem dX7_rule_9 : decode cX7_rule 9 = .ok (.if_icmp .le 7, 3) := by decide +kernel
theorem dX7_rule_12 : decode cX7_rule 12 = .ok (.sipush (-1003), 3) := by decide +kernel
theorem dX7_rule_15 : decode cX7_rule 15 = .ok (.ireturn, 1) := by decide +kernel
theorem dX7_rule_16 : decode cX7_rule 16 = .ok (.aload_n 0, 1) := by decide +kernel
theorem dX7_rule_17 : decode cX7_rule 17 = .ok (.getfield 39, 3) := by decide +kernel
theorem dX7_rule_20 : decode cX7_rule 20 = .ok (.iconst 4, 1) := by decide +kernel
theorem dX7_rule_21 : decode cX7_rule 21 = .ok (.if_icmp .lt 7, 3) := by decide +kernel
theorem dX7_rule_24 : decode cX7_rule 24 = .ok (.sipush (-1004), 3) := by decide +kernel
theorem dX7_rule_27 : decode cX7_rule 27 = .ok (.ireturn, 1) := by decide +kernel
theorem dX7_rule_28 : decode cX7_rule 28 = .ok (.aload_n 0, 1) := by decide +kernel
theorem dX7_rule_29 : decode cX7_rule 29 = .ok (.getfield 12, 3) := by decide +kernel
theorem dX7_rule_32 : decode cX7_rule 32 = .ok (.invokevirtual 88, 3) := by decide +kernel
theorem dX7_rule_35 : decode cX7_rule 35 = .ok (.aload_n 0, 1) := by decide +kernel
theorem dX7_rule_36 : decode cX7_rule 36 = .ok (.getfield 35, 3) := by decide +kernel
theorem dX7_rule_39 : decode cX7_rule 39 = .ok (.aload_n 0, 1) := by decide +kernel
theorem dX7_rule_40 : decode cX7_rule 40 = .ok (.getfield 39, 3) := by decide +kernel
theorem dX7_rule_43 : decode cX7_rule 43 = .ok (.aaload, 1) := by decide +kernel
theorem dX7_rule_44 : decode cX7_rule 44 = .ok (.aload_n 0, 1) := by decide +kernel
theorem dX7_rule_45 : decode cX7_rule 45 = .ok (.getfield 12, 3) := by decide +kernel
theorem dX7_rule_48 : decode cX7_rule 48 = .ok (.invokevirtual 168, 3) := by decide +kernel
theorem dX7_rule_51 : decode cX7_rule 51 = .ok (.aload_n 0, 1) := by decide +kernel
theorem dX7_rule_52 : decode cX7_rule 52 = .ok (.invokevirtual 95, 3) := by decide +kernel
theorem dX7_rule_55 : decode cX7_rule 55 = .ok (.istore_n 1, 1) := by decide +kernel
theorem dX7_rule_56 : decode cX7_rule 56 = .ok (.iload_n 1, 1) := by decide +kernel
theorem dX7_rule_57 : decode cX7_rule 57 = .ok (.ifCond .ge 5, 3) := by decide +kernel
theorem dX7_rule_60 : decode cX7_rule 60 = .ok (.iload_n 1, 1) := by decide +kernel
theorem dX7_rule_61 : decode cX7_rule 61 = .ok (.ireturn, 1) := by decide +kernel
theorem dX7_rule_62 : decode cX7_rule 62 = .ok (.aload_n 0, 1) := by decide +kernel
theorem dX7_rule_63 : decode cX7_rule 63 = .ok (.dup, 1) := by decide +kernel
theorem dX7_rule_64 : decode cX7_rule 64 = .ok (.getfield 39, 3) := by decide +kernel
theorem dX7_rule_67 : decode cX7_rule 67 = .ok (.iconst 1, 1) := by decide +kernel
theorem dX7_rule_68 : decode cX7_rule 68 = .ok (.iadd, 1) := by decide +kernel
theorem dX7_rule_69 : decode cX7_rule 69 = .ok (.putfield 39, 3) := by decide +kernel
theorem dX7_rule_72 : decode cX7_rule 72 = .ok (.aload_n 0, 1) := by decide +kernel
theorem dX7_rule_73 : decode cX7_rule 73 = .ok (.getfield 39, 3) := by decide +kernel
theorem dX7_rule_76 : decode cX7_rule 76 = .ok (.iconst 1, 1) := by decide +kernel
theorem dX7_rule_77 : decode cX7_rule 77 = .ok (.isub, 1) := by decide +kernel
theorem dX7_rule_78 : decode cX7_rule 78 = .ok (.ireturn, 1) := by decide +kernel
theorem f_x_mean_rows : True := trivial
theorem dX7_mean_0 : decode cX7_mean 0 = .ok (.aload_n 0, 1) := by decide +kernel
theorem dX7_mean_1 : decode cX7_mean 1 = .ok (.iload_n 1, 1) := by decide +kernel
theorem dX7_mean_2 : decode cX7_mean 2 = .ok (.invokevirtual 108, 3) := by decide +kernel
theorem dX7_mean_5 : decode cX7_mean 5 = .ok (.ifCond .eq 11, 3) := by decide +kernel
theorem dX7_mean_8 : decode cX7_mean 8 = .ok (.aload_n 0, 1) := by decide +kernel
theorem dX7_mean_9 : decode cX7_mean 9 = .ok (.iload_n 2, 1) := by decide +kernel
theorem dX7_mean_10 : decode cX7_mean 10 = .ok (.invokevirtual 169, 3) := by decide +kernel
theorem dX7_mean_13 : decode cX7_mean 13 = .ok (.ifCond .ne 7, 3) := by decide +kernel
theorem dX7_mean_16 : decode cX7_mean 16 = .ok (.sipush (-1001), 3) := by decide +kernel
theorem dX7_mean_19 : decode cX7_mean 19 = .ok (.ireturn, 1) := by decide +kernel
theorem dX7_mean_20 : decode cX7_mean 20 = .ok (.iload_n 3, 1) := by decide +kernel
theorem dX7_mean_21 : decode cX7_mean 21 = .ok (.iconst 0, 1) := by decide +kernel
theorem dX7_mean_22 : decode cX7_mean 22 = .ok (.iconst 2, 1) := by decide +kernel
theorem dX7_mean_23 : decode cX7_mean 23 = .ok (.invokestatic 112, 3) := by decide +kernel
theorem dX7_mean_26 : decode cX7_mean 26 = .ok (.ifCond .eq 26, 3) := by decide +kernel
theorem dX7_mean_29 : decode cX7_mean 29 = .ok (.aload_n 0, 1) := by decide +kernel
theorem dX7_mean_30 : decode cX7_mean 30 = .ok (.getfield 64, 3) := by decide +kernel
theorem dX7_mean_33 : decode cX7_mean 33 = .ok (.aload_n 0, 1) := by decide +kernel
theorem dX7_mean_34 : decode cX7_mean 34 = .ok (.getfield 18, 3) := by decide +kernel
theorem dX7_mean_37 : decode cX7_mean 37 = .ok (.iload_n 1, 1) := by decide +kernel
theorem dX7_mean_38 : decode cX7_mean 38 = .ok (.aaload, 1) := by decide +kernel
theorem dX7_mean_39 : decode cX7_mean 39 = .ok (.aload_n 0, 1) := by decide +kernel
theorem dX7_mean_40 : decode cX7_mean 40 = .ok (.getfield 35, 3) := by decide +kernel
theorem dX7_mean_43 : decode cX7_mean 43 = .ok (.iload_n 2, 1) := by decide +kernel
theorem dX7_mean_44 : decode cX7_mean 44 = .ok (.aaload, 1) := by decide +kernel
theorem dX7_mean_45 : decode cX7_mean 45 = .ok (.iload_n 3, 1) := by decide +kernel
theorem dX7_mean_46 : decode cX7_mean 46 = .ok (.invokevirtual 172, 3) := by decide +kernel
theorem dX7_mean_49 : decode cX7_mean 49 = .ok (.goto 6, 3) := by decide +kernel
theorem dX7_mean_52 : decode cX7_mean 52 = .ok (.sipush (-1002), 3) := by decide +kernel
theorem dX7_mean_55 : decode cX7_mean 55 = .ok (.ireturn, 1) := by decide +kernel
theorem f_x_saw_rows : True := trivial
theorem dX7_saw_0 : decode cX7_saw 0 = .ok (.aload_n 0, 1) := by decide +kernel
theorem dX7_saw_1 : decode cX7_saw 1 = .ok (.getfield 49, 3) := by decide +kernel
theorem dX7_saw_4 : decode cX7_saw 4 = .ok (.getfield 176, 3) := by decide +kernel
theorem dX7_saw_7 : decode cX7_saw 7 = .ok (.bipush 24, 2) := by decide +kernel
theorem dX7_saw_9 : decode cX7_saw 9 = .ok (.if_icmp .ge 14, 3) := by decide +kernel
theorem dX7_saw_12 : decode cX7_saw 12 = .ok (.aload_n 0, 1) := by decide +kernel
theorem dX7_saw_13 : decode cX7_saw 13 = .ok (.getfield 49, 3) := by decide +kernel
theorem dX7_saw_16 : decode cX7_saw 16 = .ok (.iload_n 1, 1) := by decide +kernel
theorem dX7_saw_17 : decode cX7_saw 17 = .ok (.invokevirtual 179, 3) := by decide +kernel
theorem dX7_saw_20 : decode cX7_saw 20 = .ok (.goto 6, 3) := by decide +kernel
theorem dX7_saw_23 : decode cX7_saw 23 = .ok (.sipush (-1004), 3) := by decide +kernel
theorem dX7_saw_26 : decode cX7_saw 26 = .ok (.ireturn, 1) := by decide +kernel
theorem f_x_clear_rows : True := trivial
theorem dX7_clear_0 : decode cX7_clear 0 = .ok (.aload_n 0, 1) := by decide +kernel
theorem dX7_clear_1 : decode cX7_clear 1 = .ok (.getfield 49, 3) := by decide +kernel
theorem dX7_clear_4 : decode cX7_clear 4 = .ok (.getfield 176, 3) := by decide +kernel
theorem dX7_clear_7 : decode cX7_clear 7 = .ok (.istore_n 1, 1) := by decide +kernel
theorem dX7_clear_8 : decode cX7_clear 8 = .ok (.aload_n 0, 1) := by decide +kernel
theorem dX7_clear_9 : decode cX7_clear 9 = .ok (.getfield 49, 3) := by decide +kernel
theorem dX7_clear_12 : decode cX7_clear 12 = .ok (.iconst 0, 1) := by decide +kernel
theorem dX7_clear_13 : decode cX7_clear 13 = .ok (.putfield 176, 3) := by decide +kernel
theorem dX7_clear_16 : decode cX7_clear 16 = .ok (.aload_n 0, 1) := by decide +kernel
theorem dX7_clear_17 : decode cX7_clear 17 = .ok (.getfield 49, 3) := by decide +kernel
theorem dX7_clear_20 : decode cX7_clear 20 = .ok (.iconst 0, 1) := by decide +kernel
theorem dX7_clear_21 : decode cX7_clear 21 = .ok (.putfield 183, 3) := by decide +kernel
theorem dX7_clear_24 : decode cX7_clear 24 = .ok (.iload_n 1, 1) := by decide +kernel
theorem dX7_clear_25 : decode cX7_clear 25 = .ok (.ireturn, 1) := by decide +kernel
theorem f_x_waits_rows : True := trivial
theorem dX7_waits_0 : decode cX7_waits 0 = .ok (.aload_n 0, 1) := by decide +kernel
theorem dX7_waits_1 : decode cX7_waits 1 = .ok (.iload_n 1, 1) := by decide +kernel
theorem dX7_waits_2 : decode cX7_waits 2 = .ok (.iload_n 2, 1) := by decide +kernel
theorem dX7_waits_3 : decode cX7_waits 3 = .ok (.iload_n 3, 1) := by decide +kernel
theorem dX7_waits_4 : decode cX7_waits 4 = .ok (.iload 4, 2) := by decide +kernel
theorem dX7_waits_6 : decode cX7_waits 6 = .ok (.invokevirtual 141, 3) := by decide +kernel
theorem dX7_waits_9 : decode cX7_waits 9 = .ok (.istore 8, 2) := by decide +kernel
theorem dX7_waits_11 : decode cX7_waits 11 = .ok (.iload 8, 2) := by decide +kernel
theorem dX7_waits_13 : decode cX7_waits 13 = .ok (.ifCond .eq 6, 3) := by decide +kernel
theorem dX7_waits_16 : decode cX7_waits 16 = .ok (.iload 8, 2) := by decide +kernel
theorem dX7_waits_18 : decode cX7_waits 18 = .ok (.ireturn, 1) := by decide +kernel
theorem dX7_waits_19 : decode cX7_waits 19 = .ok (.iload 5, 2) := by decide +kernel
theorem dX7_waits_21 : decode cX7_waits 21 = .ok (.iconst 0, 1) := by decide +kernel
theorem dX7_waits_22 : decode cX7_waits 22 = .ok (.bipush 100, 2) := by decide +kernel
theorem dX7_waits_24 : decode cX7_waits 24 = .ok (.invokestatic 112, 3) := by decide +kernel
theorem dX7_waits_27 : decode cX7_waits 27 = .ok (.ifCond .eq 24, 3) := by decide +kernel
theorem dX7_waits_30 : decode cX7_waits 30 = .ok (.iload 6, 2) := by decide +kernel
theorem dX7_waits_32 : decode cX7_waits 32 = .ok (.iconst 0, 1) := by decide +kernel
theorem dX7_waits_33 : decode cX7_waits 33 = .ok (.bipush 99, 2) := by decide +kernel
theorem dX7_waits_35 : decode cX7_waits 35 = .ok (.invokestatic 112, 3) := by decide +kernel
theorem dX7_waits_38 : decode cX7_waits 38 = .ok (.ifCond .eq 13, 3) := by decide +kernel
theorem dX7_waits_41 : decode cX7_waits 41 = .ok (.iload 7, 2) := by decide +kernel
theorem dX7_waits_43 : decode cX7_waits 43 = .ok (.iconst 0, 1) := by decide +kernel
theorem dX7_waits_44 : decode cX7_waits 44 = .ok (.iconst 1, 1) := by decide +kernel
theorem dX7_waits_45 : decode cX7_waits 45 = .ok (.invokestatic 112, 3) := by decide +kernel
theorem dX7_waits_48 : decode cX7_waits 48 = .ok (.ifCond .ne 7, 3) := by decide +kernel
theorem dX7_waits_51 : decode cX7_waits 51 = .ok (.sipush (-1002), 3) := by decide +kernel
theorem dX7_waits_54 : decode cX7_waits 54 = .ok (.ireturn, 1) := by decide +kernel
theorem dX7_waits_55 : decode cX7_waits 55 = .ok (.iload 4, 2) := by decide +kernel
theorem dX7_waits_57 : decode cX7_waits 57 = .ok (.iconst 1, 1) := by decide +kernel
theorem dX7_waits_58 : decode cX7_waits 58 = .ok (.iand, 1) := by decide +kernel
theorem dX7_waits_59 : decode cX7_waits 59 = .ok (.ifCond .eq 7, 3) := by decide +kernel
theorem dX7_waits_62 : decode cX7_waits 62 = .ok (.sipush (-1003), 3) := by decide +kernel
theorem dX7_waits_65 : decode cX7_waits 65 = .ok (.ireturn, 1) := by decide +kernel
theorem dX7_waits_66 : decode cX7_waits 66 = .ok (.aload_n 0, 1) := by decide +kernel
theorem dX7_waits_67 : decode cX7_waits 67 = .ok (.getfield 64, 3) := by decide +kernel
theorem dX7_waits_70 : decode cX7_waits 70 = .ok (.aload_n 0, 1) := by decide +kernel
theorem dX7_waits_71 : decode cX7_waits 71 = .ok (.getfield 24, 3) := by decide +kernel
theorem dX7_waits_74 : decode cX7_waits 74 = .ok (.iload_n 1, 1) := by decide +kernel
theorem dX7_waits_75 : decode cX7_waits 75 = .ok (.aaload, 1) := by decide +kernel
theorem dX7_waits_76 : decode cX7_waits 76 = .ok (.iload_n 2, 1) := by decide +kernel
theorem dX7_waits_77 : decode cX7_waits 77 = .ok (.iload_n 3, 1) := by decide +kernel
theorem dX7_waits_78 : decode cX7_waits 78 = .ok (.iload 4, 2) := by decide +kernel
theorem dX7_waits_80 : decode cX7_waits 80 = .ok (.invokevirtual 149, 3) := by decide +kernel
theorem dX7_waits_83 : decode cX7_waits 83 = .ok (.aload_n 0, 1) := by decide +kernel
theorem dX7_waits_84 : decode cX7_waits 84 = .ok (.getfield 18, 3) := by decide +kernel
theorem dX7_waits_87 : decode cX7_waits 87 = .ok (.iload_n 1, 1) := by decide +kernel
theorem dX7_waits_88 : decode cX7_waits 88 = .ok (.aaload, 1) := by decide +kernel
theorem dX7_waits_89 : decode cX7_waits 89 = .ok (.iload_n 2, 1) := by decide +kernel
theorem dX7_waits_90 : decode cX7_waits 90 = .ok (.iload_n 3, 1) := by decide +kernel
theorem dX7_waits_91 : decode cX7_waits 91 = .ok (.invokevirtual 137, 3) := by decide +kernel
theorem dX7_waits_94 : decode cX7_waits 94 = .ok (.iload 5, 2) := by decide +kernel
theorem dX7_waits_96 : decode cX7_waits 96 = .ok (.iload 6, 2) := by decide +kernel
theorem dX7_waits_98 : decode cX7_waits 98 = .ok (.invokevirtual 197, 3) := by decide +kernel
theorem dX7_waits_101 : decode cX7_waits 101 = .ok (.iload 7, 2) := by decide +kernel
theorem dX7_waits_103 : decode cX7_waits 103 = .ok (.ifCond .ne 13, 3) := by decide +kernel
theorem dX7_waits_106 : decode cX7_waits 106 = .ok (.aload_n 0, 1) := by decide +kernel
theorem dX7_waits_107 : decode cX7_waits 107 = .ok (.getfield 64, 3) := by decide +kernel
theorem dX7_waits_110 : decode cX7_waits 110 = .ok (.getfield 201, 3) := by decide +kernel
theorem dX7_waits_113 : decode cX7_waits 113 = .ok (.goto 10, 3) := by decide +kernel
theorem dX7_waits_116 : decode cX7_waits 116 = .ok (.aload_n 0, 1) := by decide +kernel
theorem dX7_waits_117 : decode cX7_waits 117 = .ok (.getfield 64, 3) := by decide +kernel
theorem dX7_waits_120 : decode cX7_waits 120 = .ok (.getfield 204, 3) := by decide +kernel
theorem dX7_waits_123 : decode cX7_waits 123 = .ok (.ireturn, 1) := by decide +kernel
theorem f_x_boy_rows : True := trivial
theorem dX7_boy_0 : decode cX7_boy 0 = .ok (.aload_n 0, 1) := by decide +kernel
theorem dX7_boy_1 : decode cX7_boy 1 = .ok (.iload_n 1, 1) := by decide +kernel
theorem dX7_boy_2 : decode cX7_boy 2 = .ok (.invokevirtual 108, 3) := by decide +kernel
theorem dX7_boy_5 : decode cX7_boy 5 = .ok (.ifCond .eq 30, 3) := by decide +kernel
theorem dX7_boy_8 : decode cX7_boy 8 = .ok (.aload_n 0, 1) := by decide +kernel
theorem dX7_boy_9 : decode cX7_boy 9 = .ok (.getfield 64, 3) := by decide +kernel
theorem dX7_boy_12 : decode cX7_boy 12 = .ok (.aload_n 0, 1) := by decide +kernel
theorem dX7_boy_13 : decode cX7_boy 13 = .ok (.getfield 18, 3) := by decide +kernel
theorem dX7_boy_16 : decode cX7_boy 16 = .ok (.iload_n 1, 1) := by decide +kernel
theorem dX7_boy_17 : decode cX7_boy 17 = .ok (.aaload, 1) := by decide +kernel
theorem dX7_boy_18 : decode cX7_boy 18 = .ok (.aload_n 0, 1) := by decide +kernel
theorem dX7_boy_19 : decode cX7_boy 19 = .ok (.getfield 24, 3) := by decide +kernel
theorem dX7_boy_22 : decode cX7_boy 22 = .ok (.iload_n 1, 1) := by decide +kernel
theorem dX7_boy_23 : decode cX7_boy 23 = .ok (.aaload, 1) := by decide +kernel
theorem dX7_boy_24 : decode cX7_boy 24 = .ok (.getfield 158, 3) := by decide +kernel
theorem dX7_boy_27 : decode cX7_boy 27 = .ok (.iconst 0, 1) := by decide +kernel
theorem dX7_boy_28 : decode cX7_boy 28 = .ok (.iaload, 1) := by decide +kernel
theorem dX7_boy_29 : decode cX7_boy 29 = .ok (.invokevirtual 207, 3) := by decide +kernel
theorem dX7_boy_32 : decode cX7_boy 32 = .ok (.goto 6, 3) := by decide +kernel
theorem dX7_boy_35 : decode cX7_boy 35 = .ok (.sipush (-1001), 3) := by decide +kernel
theorem dX7_boy_38 : decode cX7_boy 38 = .ok (.ireturn, 1) := by decide +kernel
theorem f_x_car_rows : True := trivial
theorem dX7_car_0 : decode cX7_car 0 = .ok (.iload_n 1, 1) := by decide +kernel
theorem dX7_car_1 : decode cX7_car 1 = .ok (.iconst 0, 1) := by decide +kernel
theorem dX7_car_2 : decode cX7_car 2 = .ok (.getstatic 211, 3) := by decide +kernel
theorem dX7_car_5 : decode cX7_car 5 = .ok (.iconst 2, 1) := by decide +kernel
theorem dX7_car_6 : decode cX7_car 6 = .ok (.iaload, 1) := by decide +kernel
theorem dX7_car_7 : decode cX7_car 7 = .ok (.invokestatic 112, 3) := by decide +kernel
theorem dX7_car_10 : decode cX7_car 10 = .ok (.ifCond .eq 13, 3) := by decide +kernel
theorem dX7_car_13 : decode cX7_car 13 = .ok (.iload_n 2, 1) := by decide +kernel
theorem dX7_car_14 : decode cX7_car 14 = .ok (.iconst 0, 1) := by decide +kernel
theorem dX7_car_15 : decode cX7_car 15 = .ok (.bipush 24, 2) := by decide +kernel
theorem dX7_car_17 : decode cX7_car 17 = .ok (.invokestatic 112, 3) := by decide +kernel
theorem dX7_car_20 : decode cX7_car 20 = .ok (.ifCond .ne 7, 3) := by decide +kernel
theorem dX7_car_23 : decode cX7_car 23 = .ok (.sipush (-1002), 3) := by decide +kernel
theorem dX7_car_26 : decode cX7_car 26 = .ok (.ireturn, 1) := by decide +kernel
theorem dX7_car_27 : decode cX7_car 27 = .ok (.aload_n 0, 1) := by decide +kernel
theorem dX7_car_28 : decode cX7_car 28 = .ok (.getfield 49, 3) := by decide +kernel
theorem dX7_car_31 : decode cX7_car 31 = .ok (.getfield 214, 3) := by decide +kernel
theorem dX7_car_34 : decode cX7_car 34 = .ok (.iconst 4, 1) := by decide +kernel
theorem dX7_car_35 : decode cX7_car 35 = .ok (.if_icmp .ge 15, 3) := by decide +kernel
theorem dX7_car_38 : decode cX7_car 38 = .ok (.aload_n 0, 1) := by decide +kernel
theorem dX7_car_39 : decode cX7_car 39 = .ok (.getfield 49, 3) := by decide +kernel
theorem dX7_car_42 : decode cX7_car 42 = .ok (.iload_n 1, 1) := by decide +kernel
theorem dX7_car_43 : decode cX7_car 43 = .ok (.iload_n 2, 1) := by decide +kernel
theorem dX7_car_44 : decode cX7_car 44 = .ok (.invokevirtual 217, 3) := by decide +kernel
theorem dX7_car_47 : decode cX7_car 47 = .ok (.goto 6, 3) := by decide +kernel
theorem dX7_car_50 : decode cX7_car 50 = .ok (.sipush (-1004), 3) := by decide +kernel
theorem dX7_car_53 : decode cX7_car 53 = .ok (.ireturn, 1) := by decide +kernel
theorem dX7_steer_0 : decode cX7_steer 0 = .ok (.aload_n 0, 1) := by decide +kernel
theorem dX7_steer_1 : decode cX7_steer 1 = .ok (.iload_n 1, 1) := by decide +kernel
theorem dX7_steer_2 : decode cX7_steer 2 = .ok (.invokevirtual 220, 3) := by decide +kernel
theorem dX7_steer_5 : decode cX7_steer 5 = .ok (.ifCond .ne 7, 3) := by decide +kernel
theorem dX7_steer_8 : decode cX7_steer 8 = .ok (.sipush (-1001), 3) := by decide +kernel
theorem dX7_steer_11 : decode cX7_steer 11 = .ok (.ireturn, 1) := by decide +kernel
theorem dX7_steer_12 : decode cX7_steer 12 = .ok (.iload_n 2, 1) := by decide +kernel
theorem dX7_steer_13 : decode cX7_steer 13 = .ok (.iconst 0, 1) := by decide +kernel
theorem dX7_steer_14 : decode cX7_steer 14 = .ok (.bipush 24, 2) := by decide +kernel
theorem dX7_steer_16 : decode cX7_steer 16 = .ok (.invokestatic 112, 3) := by decide +kernel
theorem dX7_steer_19 : decode cX7_steer 19 = .ok (.ifCond .ne 7, 3) := by decide +kernel
theorem dX7_steer_22 : decode cX7_steer 22 = .ok (.sipush (-1002), 3) := by decide +kernel
theorem dX7_steer_25 : decode cX7_steer 25 = .ok (.ireturn, 1) := by decide +kernel
theorem dX7_steer_26 : decode cX7_steer 26 = .ok (.aload_n 0, 1) := by decide +kernel
theorem dX7_steer_27 : decode cX7_steer 27 = .ok (.getfield 49, 3) := by decide +kernel
theorem dX7_steer_30 : decode cX7_steer 30 = .ok (.getfield 223, 3) := by decide +kernel
theorem dX7_steer_33 : decode cX7_steer 33 = .ok (.iload_n 1, 1) := by decide +kernel
theorem dX7_steer_34 : decode cX7_steer 34 = .ok (.iaload, 1) := by decide +kernel
theorem dX7_steer_35 : decode cX7_steer 35 = .ok (.istore_n 3, 1) := by decide +kernel
theorem dX7_steer_36 : decode cX7_steer 36 = .ok (.aload_n 0, 1) := by decide +kernel
theorem dX7_steer_37 : decode cX7_steer 37 = .ok (.getfield 49, 3) := by decide +kernel
theorem dX7_steer_40 : decode cX7_steer 40 = .ok (.getfield 223, 3) := by decide +kernel
theorem dX7_steer_43 : decode cX7_steer 43 = .ok (.iload_n 1, 1) := by decide +kernel
theorem dX7_steer_44 : decode cX7_steer 44 = .ok (.iload_n 2, 1) := by decide +kernel
theorem dX7_steer_45 : decode cX7_steer 45 = .ok (.iastore, 1) := by decide +kernel
theorem dX7_steer_46 : decode cX7_steer 46 = .ok (.iload_n 3, 1) := by decide +kernel
theorem dX7_steer_47 : decode cX7_steer 47 = .ok (.ireturn, 1) := by decide +kernel
set_option maxHeartbeats 4000000 in
set_option maxRecDepth 100000 in
theorem x_steer (l : Launch) (D : va_G) (k : Nat → ClassId) (st : Nat → Nat) (lo : Nat) (a : Nat → Nat) (rk : Nat) (lfa : Int32) (cc : Nat) (rz : Nat) (ro : Int32) (sd : Int32) (wk : Nat → Int32) (br : Nat → Nat) (p0 : Int32) (p1 : Int32) (hcc : cc ≤ 4) (hbr : ∀ j, br j ≤ 24) : CWi l D k st lo yX7_steer cX7_steer 4 (some .int) ({ frames := 1, cells := 0, slots := 0, locals := 22 }) 0 0 [.ref (a 0), .int p0, .int p1] [((a 0), .inr (7, (fX7 (a 1) (a 3) (a 19) (a 35) (a 40) (nI rk) lfa (a 53) (a 56) (a 63) (a 64) (a 68)))), ((a 53), .inr (4, (fX4 (a 54) (a 55) (nI cc) (nI rz) ro sd))), (aI k (a 54) 4 wk), (aI k (a 55) 4 (nF br))] (fun (r : Int32) (br_ : (Nat → Nat)) => ∀ j, br_ j ≤ 24) (fun (br_ : (Nat → Nat)) => [((a 0), .inr (7, (fX7 (a 1) (a 3) (a 19) (a 35) (a 40) (nI rk) lfa (a 53) (a 56) (a 63) (a 64) (a 68)))), ((a 53), .inr (4, (fX4 (a 54) (a 55) (nI cc) (nI rz) ro sd))), (aI k (a 54) 4 wk), (aI k (a 55) 4 (nF br_))]) := by
  intro sz
  refine Met.ofW (cc := cX7_steer) (maxL := 4) (ret := (some .int)) (by decide) rfl ?_
  intro p e s m args below meth c s₁ B hml hv
  obtain ⟨rfl, hsz, hlo, hP, hK, hDL, hZ⟩ := hv
  have hx := B.exec
  have hb := B.bytes
  have hr := B.returns
  have hts := WS_ts B.pre
  have hown : s.vm.findClass RX7 = some m.cls := findClass_of_methodNamed B.named
  have hlocks := B.notSynchronized
  subst hsz
  have hD := hDL.self (sz := s.heap.size)
  have hAlo := A_lo hDL hlo
  generalize hAe : va_A [((a 0), .inr (7, (fX7 (a 1) (a 3) (a 19) (a 35) (a 40) (nI rk) lfa (a 53) (a 56) (a 63) (a 64) (a 68)))), ((a 53), .inr (4, (fX4 (a 54) (a 55) (nI cc) (nI rz) ro sd))), (aI k (a 54) 4 wk), (aI k (a 55) 4 (nF br))] s.heap.size = A at hD hAlo ⊢
  have hA : ∀ q : Nat, s.heap.size ≤ q → A q := fun q h => by rw [← hAe]; exact Or.inr h
  have hS : va_S A s.heap s.heap [] := va_S.rf
  have hl := lv_entry ([.ref (a 0), .int p0, .int p1]) (n := 4) (Nat.le_of_ble_eq_true rfl)
  rw [lg_entry_eq]
  generalize (lg_sl ([.ref (a 0), .int p0, .int p1]) ++ List.replicate (4 - (lg_sl ([.ref (a 0), .int p0, .int p1])).length) Slot.unset).toArray = ls at hl ⊢
  have hl : lv_has ls 4 [(0, .ref (a 0)), (1, .int p0), (2, .int p1)] := hl
  refine lv_aload_n hx hb dX7_steer_0 rfl (lv_at hl 0 rfl) ?_
  refine lv_iload_n hx hb dX7_steer_1 rfl (lv_at hl 1 rfl) ?_
  refine ro_i (D := D) (va_runV (As := [.int p0]) (rest := []) ⟨hx, hb, hml, hown, hts⟩ ((x_isCar l D k st lo a rk lfa cc rz ro sd p0 (by first | assumption | omega)) s.heap.size) (cwV 1 hts (gV tw_809 tw_811 tw_17 tw_79 tw_812) rfl rfl rfl (by decide +kernel) ⟨Nat.le_of_ble_eq_true rfl, Nat.le_of_ble_eq_true rfl⟩) (pV hS hAlo hlo hP hK (va_Dlo hD hAlo) hZ [0, 1] (by decide) rfl (ci := 7) (q := (RX7, TX7, 12)) (q0 := 0) rfl rfl) rfl rfl hl.1 rfl (lv_room (Nat.le_of_ble_eq_true rfl)) dX7_steer_2 ⟨Nat.le_of_ble_eq_true rfl, Nat.le_of_ble_eq_true rfl⟩) hS hA hP (fun r_1 H locs hw_1 hP hS => ?_)
  try dsimp only at hw_1
  rcases hw_1 with ⟨rfl, ic_2, hic_2, rfl⟩ | rfl
  · refine lv_if_ne (tgt := 12) hx hb dX7_steer_5 (by decide) (fun _ => ?_) (fun h => absurd h (by decide))
    refine lv_iload_n hx hb dX7_steer_12 rfl (lv_at hl 2 rfl) ?_
    refine lv_iconst (v := 0) hx hb dX7_steer_13 (by decide) ?_
    refine lv_bipush (v := 24) hx hb dX7_steer_14 (by decide) ?_
    refine ro_i (D := D) (va_runS (As := [.int p1, .int 0, .int 24]) (rest := []) ⟨hx, hb, hml, hown, hts⟩ ((k_isIn l D k st lo p1 0 24) H.size) (va_cwS 3 hts (gS tw_593 tw_594 tw_79 tw_595) rfl rfl rfl (by decide +kernel) ⟨Nat.le_of_ble_eq_true rfl, Nat.le_of_ble_eq_true rfl⟩) (pS hS hAlo hlo hP hK (va_Dlo hD hAlo) hZ [] (by decide) rfl) rfl rfl hl.1 rfl (lv_room (Nat.le_of_ble_eq_true rfl)) dX7_steer_16 ⟨Nat.le_of_ble_eq_true rfl, Nat.le_of_ble_eq_true rfl⟩) hS hA hP (fun r_3 H locs hw_3 hP hS => ?_)
    try dsimp only at hw_3
    rcases hw_3 with ⟨rfl, hw_3⟩ | ⟨rfl, hw_3⟩
    · refine lv_if_ne (tgt := 26) hx hb dX7_steer_19 (by decide) (fun _ => ?_) (fun h => absurd h (by decide))
      obtain ⟨nb_4, hnl_4, hnh_4, rfl⟩ := inB_ofc (a := 0) (b := 24) (by omega) (by omega) hw_3
      refine lv_aload_n hx hb dX7_steer_26 rfl (lv_at hl 0 rfl) ?_
      refine va_get (D := D) (ci := 7) (v := .ref (a 53)) (C := RX7) (T := TX7) (N := 12) hx hb hts inX7 hown hK hP 0 rfl rfl 7 (by decide) (hts _ tw_312) (fun _ h9 => h9) rfl dX7_steer_27 ?_
      refine va_get (D := D) (ci := 4) (v := .ref (a 55)) (C := RX4) (T := TX4) (N := 6) hx hb hts inX4 hown hK hP 1 rfl rfl 1 (by decide) (hts _ tw_177) (fun _ h9 => h9) rfl dX7_steer_30 ?_
      refine lv_iload_n hx hb dX7_steer_33 rfl (lv_at hl 1 rfl) ?_
      refine va_iald hx hb hK hP 3 1 rfl rfl (vp_in_nI (by omega) (by decide)) dX7_steer_34 ?_
      have hq_5 := hbr ic_2
      have hq_6 := hbr ic_2
      refine lv_ti (y := (nI (br ic_2))) (by rw [nI_clamp (by omega)]; rfl) ?_
      refine lv_istore_n (lv' := [(3, .int (nI (br ic_2))), (0, .ref (a 0)), (1, .int (nI ic_2)), (2, .int (nI nb_4))]) hx hb dX7_steer_35 rfl hl (by decide) rfl (fun ls hl => ?_)
      refine lv_aload_n hx hb dX7_steer_36 rfl (lv_at hl 1 rfl) ?_
      refine va_get (D := D) (ci := 7) (v := .ref (a 53)) (C := RX7) (T := TX7) (N := 12) hx hb hts inX7 hown hK hP 0 rfl rfl 7 (by decide) (hts _ tw_312) (fun _ h9 => h9) rfl dX7_steer_37 ?_
      refine va_get (D := D) (ci := 4) (v := .ref (a 55)) (C := RX4) (T := TX4) (N := 6) hx hb hts inX4 hown hK hP 1 rfl rfl 1 (by decide) (hts _ tw_177) (fun _ h9 => h9) rfl dX7_steer_40 ?_
      refine lv_iload_n hx hb dX7_steer_43 rfl (lv_at hl 2 rfl) ?_
      refine lv_iload_n hx hb dX7_steer_44 rfl (lv_at hl 3 rfl) ?_
      refine va_iast hx hb hK hP hD hS 3 1 rfl rfl (vp_in_nI (by omega) (by decide)) dX7_steer_45 (fun H locs hP hD hS => ?_)
      replace hP : va_P D classes [((a 0), .inr (7, (fX7 (a 1) (a 3) (a 19) (a 35) (a 40) (nI rk) lfa (a 53) (a 56) (a 63) (a 64) (a 68)))), ((a 53), .inr (4, (fX4 (a 54) (a 55) (nI cc) (nI rz) ro sd))), (aI k (a 54) 4 wk), (aI k (a 55) 4 (upd (nF br) (Int32.toNatClampNeg (nI ic_2)) (nI nb_4)))] H := hP
      replace hD : va_D A [((a 0), .inr (7, (fX7 (a 1) (a 3) (a 19) (a 35) (a 40) (nI rk) lfa (a 53) (a 56) (a 63) (a 64) (a 68)))), ((a 53), .inr (4, (fX4 (a 54) (a 55) (nI cc) (nI rz) ro sd))), (aI k (a 54) 4 wk), (aI k (a 55) 4 (upd (nF br) (Int32.toNatClampNeg (nI ic_2)) (nI nb_4)))] := hD
      rw [nI_clamp (n := ic_2) (by omega)] at hP hD
      rw [show upd (nF br) ic_2 (nI nb_4) = nF (fun j => if j = ic_2 then nb_4 else br j) from nF_upd _ _ _] at hP hD
      obtain ⟨d_8, hd_8⟩ : ∃ z : Nat → Nat, z = (fun j => if j = ic_2 then nb_4 else br j) := ⟨_, rfl⟩
      rw [← hd_8] at hP hD
      have hbb_8 : ∀ j, d_8 j ≤ 24 := by rw [hd_8]; exact up_le hbr (by omega)
      refine lv_iload_n hx hb dX7_steer_46 rfl (lv_at hl 0 rfl) ?_
      have hP9 := hP.sub (ws' := [((a 0), .inr (7, (fX7 (a 1) (a 3) (a 19) (a 35) (a 40) (nI rk) lfa (a 53) (a 56) (a 63) (a 64) (a 68)))), ((a 53), .inr (4, (fX4 (a 54) (a 55) (nI cc) (nI rz) ro sd))), (aI k (a 54) 4 wk), (aI k (a 55) 4 (nF d_8))]) [0, 1, 2, 3] rfl
      have hD9 := hD.sub (ws' := [((a 0), .inr (7, (fX7 (a 1) (a 3) (a 19) (a 35) (a 40) (nI rk) lfa (a 53) (a 56) (a 63) (a 64) (a 68)))), ((a 53), .inr (4, (fX4 (a 54) (a 55) (nI cc) (nI rz) ro sd))), (aI k (a 54) 4 wk), (aI k (a 55) 4 (nF d_8))]) [0, 1, 2, 3] (by decide) rfl
      exact W.iret (v := (nI (br ic_2))) hx hb hr (fun t ht hW => ⟨⟨(nI (br ic_2)), d_8, rfl, hbb_8, by rw [ht]; exact hP9, hD9⟩, hS.F ht⟩) hS.2.2 dX7_steer_47
    · refine lv_if_ne (tgt := 26) hx hb dX7_steer_19 (by decide) (fun h => absurd (by decide) h) (fun _ => ?_)
      refine lv_sipush (v := (-1002)) hx hb dX7_steer_22 (by decide) ?_
      have hP9 := hP.sub (ws' := [((a 0), .inr (7, (fX7 (a 1) (a 3) (a 19) (a 35) (a 40) (nI rk) lfa (a 53) (a 56) (a 63) (a 64) (a 68)))), ((a 53), .inr (4, (fX4 (a 54) (a 55) (nI cc) (nI rz) ro sd))), (aI k (a 54) 4 wk), (aI k (a 55) 4 (nF br))]) [0, 1, 2, 3] rfl
      have hD9 := hD.sub (ws' := [((a 0), .inr (7, (fX7 (a 1) (a 3) (a 19) (a 35) (a 40) (nI rk) lfa (a 53) (a 56) (a 63) (a 64) (a 68)))), ((a 53), .inr (4, (fX4 (a 54) (a 55) (nI cc) (nI rz) ro sd))), (aI k (a 54) 4 wk), (aI k (a 55) 4 (nF br))]) [0, 1, 2, 3] (by decide) rfl
      exact W.iret (v := (-1002)) hx hb hr (fun t ht hW => ⟨⟨(-1002), br, rfl, hbr, by rw [ht]; exact hP9, hD9⟩, hS.F ht⟩) hS.2.2 dX7_steer_25
  · refine lv_if_ne (tgt := 12) hx hb dX7_steer_5 (by decide) (fun h => absurd (by decide) h) (fun _ => ?_)
    refine lv_sipush (v := (-1001)) hx hb dX7_steer_8 (by decide) ?_
    have hP9 := hP.sub (ws' := [((a 0), .inr (7, (fX7 (a 1) (a 3) (a 19) (a 35) (a 40) (nI rk) lfa (a 53) (a 56) (a 63) (a 64) (a 68)))), ((a 53), .inr (4, (fX4 (a 54) (a 55) (nI cc) (nI rz) ro sd))), (aI k (a 54) 4 wk), (aI k (a 55) 4 (nF br))]) [0, 1, 2, 3] rfl
    have hD9 := hD.sub (ws' := [((a 0), .inr (7, (fX7 (a 1) (a 3) (a 19) (a 35) (a 40) (nI rk) lfa (a 53) (a 56) (a 63) (a 64) (a 68)))), ((a 53), .inr (4, (fX4 (a 54) (a 55) (nI cc) (nI rz) ro sd))), (aI k (a 54) 4 wk), (aI k (a 55) 4 (nF br))]) [0, 1, 2, 3] (by decide) rfl
    exact W.iret (v := (-1001)) hx hb hr (fun t ht hW => ⟨⟨(-1001), br, rfl, hbr, by rw [ht]; exact hP9, hD9⟩, hS.F ht⟩) hS.2.2 dX7_steer_11

theorem dX7_parks_0 : decode cX7_parks 0 = .ok (.aload_n 0, 1) := by decide +kernel
theorem dX7_parks_1 : decode cX7_parks 1 = .ok (.iload_n 1, 1) := by decide +kernel
theorem dX7_parks_2 : decode cX7_parks 2 = .ok (.invokevirtual 108, 3) := by decide +kernel
theorem dX7_parks_5 : decode cX7_parks 5 = .ok (.ifCond .eq 11, 3) := by decide +kernel
theorem dX7_parks_8 : decode cX7_parks 8 = .ok (.aload_n 0, 1) := by decide +kernel
theorem dX7_parks_9 : decode cX7_parks 9 = .ok (.iload_n 3, 1) := by decide +kernel
theorem dX7_parks_10 : decode cX7_parks 10 = .ok (.invokevirtual 220, 3) := by decide +kernel
theorem dX7_parks_13 : decode cX7_parks 13 = .ok (.ifCond .ne 7, 3) := by decide +kernel
theorem dX7_parks_16 : decode cX7_parks 16 = .ok (.sipush (-1001), 3) := by decide +kernel
theorem dX7_parks_19 : decode cX7_parks 19 = .ok (.ireturn, 1) := by decide +kernel
theorem dX7_parks_20 : decode cX7_parks 20 = .ok (.aload_n 0, 1) := by decide +kernel
theorem dX7_parks_21 : decode cX7_parks 21 = .ok (.iload_n 1, 1) := by decide +kernel
theorem dX7_parks_22 : decode cX7_parks 22 = .ok (.iload_n 2, 1) := by decide +kernel
theorem dX7_parks_23 : decode cX7_parks 23 = .ok (.invokevirtual 226, 3) := by decide +kernel
theorem dX7_parks_26 : decode cX7_parks 26 = .ok (.ifCond .eq 13, 3) := by decide +kernel
theorem dX7_parks_29 : decode cX7_parks 29 = .ok (.iload 4, 2) := by decide +kernel
theorem dX7_parks_31 : decode cX7_parks 31 = .ok (.iconst 0, 1) := by decide +kernel
theorem dX7_parks_32 : decode cX7_parks 32 = .ok (.iconst 1, 1) := by decide +kernel
theorem dX7_parks_33 : decode cX7_parks 33 = .ok (.invokestatic 112, 3) := by decide +kernel
theorem dX7_parks_36 : decode cX7_parks 36 = .ok (.ifCond .ne 7, 3) := by decide +kernel
theorem dX7_parks_39 : decode cX7_parks 39 = .ok (.sipush (-1002), 3) := by decide +kernel
theorem dX7_parks_42 : decode cX7_parks 42 = .ok (.ireturn, 1) := by decide +kernel
theorem dX7_parks_43 : decode cX7_parks 43 = .ok (.aload_n 0, 1) := by decide +kernel
theorem dX7_parks_44 : decode cX7_parks 44 = .ok (.getfield 73, 3) := by decide +kernel
theorem dX7_parks_47 : decode cX7_parks 47 = .ok (.aload_n 0, 1) := by decide +kernel
theorem dX7_parks_48 : decode cX7_parks 48 = .ok (.getfield 18, 3) := by decide +kernel
theorem dX7_parks_51 : decode cX7_parks 51 = .ok (.iload_n 1, 1) := by decide +kernel
theorem dX7_parks_52 : decode cX7_parks 52 = .ok (.aaload, 1) := by decide +kernel
theorem dX7_parks_53 : decode cX7_parks 53 = .ok (.iload_n 2, 1) := by decide +kernel
theorem dX7_parks_54 : decode cX7_parks 54 = .ok (.invokevirtual 229, 3) := by decide +kernel
theorem dX7_parks_57 : decode cX7_parks 57 = .ok (.aload_n 0, 1) := by decide +kernel
theorem dX7_parks_58 : decode cX7_parks 58 = .ok (.getfield 73, 3) := by decide +kernel
theorem dX7_parks_61 : decode cX7_parks 61 = .ok (.iload_n 3, 1) := by decide +kernel
theorem dX7_parks_62 : decode cX7_parks 62 = .ok (.invokevirtual 233, 3) := by decide +kernel
theorem dX7_parks_65 : decode cX7_parks 65 = .ok (.istore 5, 2) := by decide +kernel
theorem dX7_parks_67 : decode cX7_parks 67 = .ok (.iload 4, 2) := by decide +kernel
theorem dX7_parks_69 : decode cX7_parks 69 = .ok (.iconst 1, 1) := by decide +kernel
theorem dX7_parks_70 : decode cX7_parks 70 = .ok (.if_icmp .ne 14, 3) := by decide +kernel
theorem dX7_parks_73 : decode cX7_parks 73 = .ok (.aload_n 0, 1) := by decide +kernel
theorem dX7_parks_74 : decode cX7_parks 74 = .ok (.getfield 73, 3) := by decide +kernel
theorem dX7_parks_77 : decode cX7_parks 77 = .ok (.iload_n 3, 1) := by decide +kernel
theorem dX7_parks_78 : decode cX7_parks 78 = .ok (.iload 5, 2) := by decide +kernel
theorem dX7_parks_80 : decode cX7_parks 80 = .ok (.invokevirtual 236, 3) := by decide +kernel
theorem dX7_parks_83 : decode cX7_parks 83 = .ok (.ireturn, 1) := by decide +kernel
theorem dX7_parks_84 : decode cX7_parks 84 = .ok (.iload 5, 2) := by decide +kernel
theorem dX7_parks_86 : decode cX7_parks 86 = .ok (.aload_n 0, 1) := by decide +kernel
theorem dX7_parks_87 : decode cX7_parks 87 = .ok (.getfield 18, 3) := by decide +kernel
theorem dX7_parks_90 : decode cX7_parks 90 = .ok (.iload_n 1, 1) := by decide +kernel
theorem dX7_parks_91 : decode cX7_parks 91 = .ok (.aaload, 1) := by decide +kernel
theorem dX7_parks_92 : decode cX7_parks 92 = .ok (.invokevirtual 105, 3) := by decide +kernel
theorem dX7_parks_95 : decode cX7_parks 95 = .ok (.if_icmp .ge 8, 3) := by decide +kernel
theorem dX7_parks_98 : decode cX7_parks 98 = .ok (.iload 5, 2) := by decide +kernel
theorem dX7_parks_100 : decode cX7_parks 100 = .ok (.goto 4, 3) := by decide +kernel
theorem dX7_parks_103 : decode cX7_parks 103 = .ok (.iconst (-1), 1) := by decide +kernel
theorem dX7_parks_104 : decode cX7_parks 104 = .ok (.ireturn, 1) := by decide +kernel
set_option maxHeartbeats 4000000 in
set_option maxRecDepth 100000 in
theorem x_parks (l : Launch) (D : va_G) (k : Nat → ClassId) (st : Nat → Nat) (lo : Nat) (a : Nat → Nat) (rk : Nat) (lfa : Int32) (n0 : Nat) (see0 : Nat) (tm0 : Nat) (g0 : Nat → Int32) (fp0 : Nat → Int32) (fl0 : Nat → Int32) (n1 : Nat) (see1 : Nat) (tm1 : Nat) (g1 : Nat → Int32) (fp1 : Nat → Int32) (fl1 : Nat → Int32) (n2 : Nat) (see2 : Nat) (tm2 : Nat) (g2 : Nat → Int32) (fp2 : Nat → Int32) (fl2 : Nat → Int32) (cc : Nat) (rz : Nat) (ro : Int32) (sd : Int32) (wk : Nat → Int32) (br : Nat → Nat) (pn : Int32) (pf : Int32) (pd : Int32) (pe : Int32) (pb : Nat → Nat) (pco : Nat → Int32) (pg : Nat → Int32) (p0 : Int32) (p1 : Int32) (p2 : Int32) (p3 : Int32) (hn0 : n0 ≤ 24) (hse0 : see0 ≤ 2) (htm0 : tm0 ≤ 3) (hn1 : n1 ≤ 24) (hse1 : see1 ≤ 2) (htm1 : tm1 ≤ 3) (hn2 : n2 ≤ 24) (hse2 : see2 ≤ 2) (htm2 : tm2 ≤ 3) (hcc : cc ≤ 4) (hbr : ∀ j, br j ≤ 24) (hpb : ∀ j, pb j ≤ 24) : CWi l D k st lo yX7_parks cX7_parks 6 (some .int) ({ frames := 3, cells := 0, slots := 0, locals := 84 }) 0 0 [.ref (a 0), .int p0, .int p1, .int p2, .int p3] [((a 0), .inr (7, (fX7 (a 1) (a 3) (a 19) (a 35) (a 40) (nI rk) lfa (a 53) (a 56) (a 63) (a 64) (a 68)))), ((a 3), .inl (k 3, 3, .inr (.inr (.inr (.inr (a3 (a 4) (a 9) (a 14))))))), ((a 4), .inr (5, (fX5 (a 5) (a 6) (a 7) (a 8)))), (aI k (a 5) 10 (vv n0 see0 tm0 g0)), (aI k (a 7) 24 fp0), (aI k (a 8) 4 fl0), ((a 9), .inr (5, (fX5 (a 10) (a 11) (a 12) (a 13)))), (aI k (a 10) 10 (vv n1 see1 tm1 g1)), (aI k (a 12) 24 fp1), (aI k (a 13) 4 fl1), ((a 14), .inr (5, (fX5 (a 15) (a 16) (a 17) (a 18)))), (aI k (a 15) 10 (vv n2 see2 tm2 g2)), (aI k (a 17) 24 fp2), (aI k (a 18) 4 fl2), ((a 53), .inr (4, (fX4 (a 54) (a 55) (nI cc) (nI rz) ro sd))), (aI k (a 54) 4 wk), (aI k (a 55) 4 (nF br)), ((a 68), .inr (1, (fX1 (a 53) (a 69) (a 70) (a 71) pn pf pd pe))), (aI k (a 69) 4 (nF pb)), (aI k (a 70) 100 pco), (aI k (a 71) 16 pg)] (fun (r : Int32) (u : Int32 × Int32 × Int32 × Int32 × (Nat → Nat) × (Nat → Int32)) => match u with | (pn_, pf_, pd_, pe_, pb_, pco_) => ∀ j, pb_ j ≤ 24) (fun (u : Int32 × Int32 × Int32 × Int32 × (Nat → Nat) × (Nat → Int32)) => match u with | (pn_, pf_, pd_, pe_, pb_, pco_) => [((a 0), .inr (7, (fX7 (a 1) (a 3) (a 19) (a 35) (a 40) (nI rk) lfa (a 53) (a 56) (a 63) (a 64) (a 68)))), ((a 3), .inl (k 3, 3, .inr (.inr (.inr (.inr (a3 (a 4) (a 9) (a 14))))))), ((a 4), .inr (5, (fX5 (a 5) (a 6) (a 7) (a 8)))), (aI k (a 5) 10 (vv n0 see0 tm0 g0)), (aI k (a 7) 24 fp0), (aI k (a 8) 4 fl0), ((a 9), .inr (5, (fX5 (a 10) (a 11) (a 12) (a 13)))), (aI k (a 10) 10 (vv n1 see1 tm1 g1)), (aI k (a 12) 24 fp1), (aI k (a 13) 4 fl1), ((a 14), .inr (5, (fX5 (a 15) (a 16) (a 17) (a 18)))), (aI k (a 15) 10 (vv n2 see2 tm2 g2)), (aI k (a 17) 24 fp2), (aI k (a 18) 4 fl2), ((a 53), .inr (4, (fX4 (a 54) (a 55) (nI cc) (nI rz) ro sd))), (aI k (a 54) 4 wk), (aI k (a 55) 4 (nF br)), ((a 68), .inr (1, (fX1 (a 53) (a 69) (a 70) (a 71) pn_ pf_ pd_ pe_))), (aI k (a 69) 4 (nF pb_)), (aI k (a 70) 100 pco_), (aI k (a 71) 16 pg)]) := by
  intro sz
  refine Met.ofW (cc := cX7_parks) (maxL := 6) (ret := (some .int)) (by decide) rfl ?_
  intro p e s m args below meth c s₁ B hml hv
  obtain ⟨rfl, hsz, hlo, hP, hK, hDL, hZ⟩ := hv
  have hx := B.exec
  have hb := B.bytes
  have hr := B.returns
  have hts := WS_ts B.pre
  have hown : s.vm.findClass RX7 = some m.cls := findClass_of_methodNamed B.named
  have hlocks := B.notSynchronized
  subst hsz
  have hD := hDL.self (sz := s.heap.size)
  have hAlo := A_lo hDL hlo
  generalize hAe : va_A [((a 0), .inr (7, (fX7 (a 1) (a 3) (a 19) (a 35) (a 40) (nI rk) lfa (a 53) (a 56) (a 63) (a 64) (a 68)))), ((a 3), .inl (k 3, 3, .inr (.inr (.inr (.inr (a3 (a 4) (a 9) (a 14))))))), ((a 4), .inr (5, (fX5 (a 5) (a 6) (a 7) (a 8)))), (aI k (a 5) 10 (vv n0 see0 tm0 g0)), (aI k (a 7) 24 fp0), (aI k (a 8) 4 fl0), ((a 9), .inr (5, (fX5 (a 10) (a 11) (a 12) (a 13)))), (aI k (a 10) 10 (vv n1 see1 tm1 g1)), (aI k (a 12) 24 fp1), (aI k (a 13) 4 fl1), ((a 14), .inr (5, (fX5 (a 15) (a 16) (a 17) (a 18)))), (aI k (a 15) 10 (vv n2 see2 tm2 g2)), (aI k (a 17) 24 fp2), (aI k (a 18) 4 fl2), ((a 53), .inr (4, (fX4 (a 54) (a 55) (nI cc) (nI rz) ro sd))), (aI k (a 54) 4 wk), (aI k (a 55) 4 (nF br)), ((a 68), .inr (1, (fX1 (a 53) (a 69) (a 70) (a 71) pn pf pd pe))), (aI k (a 69) 4 (nF pb)), (aI k (a 70) 100 pco), (aI k (a 71) 16 pg)] s.heap.size = A at hD hAlo ⊢
  have hA : ∀ q : Nat, s.heap.size ≤ q → A q := fun q h => by rw [← hAe]; exact Or.inr h
  have hS : va_S A s.heap s.heap [] := va_S.rf
  have hl := lv_entry ([.ref (a 0), .int p0, .int p1, .int p2, .int p3]) (n := 6) (Nat.le_of_ble_eq_true rfl)
  rw [lg_entry_eq]
  generalize (lg_sl ([.ref (a 0), .int p0, .int p1, .int p2, .int p3]) ++ List.replicate (6 - (lg_sl ([.ref (a 0), .int p0, .int p1, .int p2, .int p3])).length) Slot.unset).toArray = ls at hl ⊢
  have hl : lv_has ls 6 [(0, .ref (a 0)), (1, .int p0), (2, .int p1), (3, .int p2), (4, .int p3)] := hl
  refine lv_aload_n hx hb dX7_parks_0 rfl (lv_at hl 0 rfl) ?_
  refine lv_iload_n hx hb dX7_parks_1 rfl (lv_at hl 1 rfl) ?_
  refine ro_i (D := D) (va_runV (As := [.int p0]) (rest := []) ⟨hx, hb, hml, hown, hts⟩ ((x_isStreet l D k st lo a rk lfa n0 see0 tm0 g0 n1 see1 tm1 g1 n2 see2 tm2 g2 p0 (by first | assumption | omega) (by first | assumption | omega) (by first | assumption | omega)) s.heap.size) (cwV 1 hts (gV tw_589 tw_591 tw_8 tw_79 tw_592) rfl rfl rfl (by decide +kernel) ⟨Nat.le_of_ble_eq_true rfl, Nat.le_of_ble_eq_true rfl⟩) (pV hS hAlo hlo hP hK (va_Dlo hD hAlo) hZ [0, 1, 2, 3, 6, 7, 10, 11] (by decide) rfl (ci := 7) (q := (RX7, TX7, 12)) (q0 := 0) rfl rfl) rfl rfl hl.1 rfl (lv_room (Nat.le_of_ble_eq_true rfl)) dX7_parks_2 ⟨Nat.le_of_ble_eq_true rfl, Nat.le_of_ble_eq_true rfl⟩) hS hA hP (fun r_1 H locs hw_1 hP hS => ?_)
  try dsimp only at hw_1
  rcases hw_1 with ⟨rfl, ⟨rfl, hw_1⟩ | ⟨rfl, hw_1⟩ | ⟨rfl, hw_1⟩⟩ | rfl
  · refine lv_if_eq (tgt := 16) hx hb dX7_parks_5 (by decide) (fun h => absurd h (by decide)) (fun _ => ?_)
    refine lv_aload_n hx hb dX7_parks_8 rfl (lv_at hl 0 rfl) ?_
    refine lv_iload_n hx hb dX7_parks_9 rfl (lv_at hl 3 rfl) ?_
    refine ro_i (D := D) (va_runV (As := [.int p2]) (rest := []) ⟨hx, hb, hml, hown, hts⟩ ((x_isCar l D k st lo a rk lfa cc rz ro sd p2 (by first | assumption | omega)) H.size) (cwV 1 hts (gV tw_809 tw_811 tw_17 tw_79 tw_812) rfl rfl rfl (by decide +kernel) ⟨Nat.le_of_ble_eq_true rfl, Nat.le_of_ble_eq_true rfl⟩) (pV hS hAlo hlo hP hK (va_Dlo hD hAlo) hZ [0, 14] (by decide) rfl (ci := 7) (q := (RX7, TX7, 12)) (q0 := 0) rfl rfl) rfl rfl hl.1 rfl (lv_room (Nat.le_of_ble_eq_true rfl)) dX7_parks_10 ⟨Nat.le_of_ble_eq_true rfl, Nat.le_of_ble_eq_true rfl⟩) hS hA hP (fun r_2 H locs hw_2 hP hS => ?_)
    try dsimp only at hw_2
    rcases hw_2 with ⟨rfl, ic_3, hic_3, rfl⟩ | rfl
    · refine lv_if_ne (tgt := 20) hx hb dX7_parks_13 (by decide) (fun _ => ?_) (fun h => absurd h (by decide))
      refine lv_aload_n hx hb dX7_parks_20 rfl (lv_at hl 0 rfl) ?_
      refine lv_iload_n hx hb dX7_parks_21 rfl (lv_at hl 1 rfl) ?_
      refine lv_iload_n hx hb dX7_parks_22 rfl (lv_at hl 2 rfl) ?_
      refine ro_i (D := D) (va_runV (As := [.int 0, .int p1]) (rest := []) ⟨hx, hb, hml, hown, hts⟩ ((x_isSet_0 l D k st lo a rk lfa n0 see0 tm0 g0 p1) H.size) (cwV 2 hts (gV tw_817 tw_819 tw_18 tw_79 tw_820) rfl rfl rfl (by decide +kernel) ⟨Nat.le_of_ble_eq_true rfl, Nat.le_of_ble_eq_true rfl⟩) (pV hS hAlo hlo hP hK (va_Dlo hD hAlo) hZ [0, 1, 2, 3] (by decide) rfl (ci := 7) (q := (RX7, TX7, 12)) (q0 := 0) rfl rfl) rfl rfl hl.1 rfl (lv_room (Nat.le_of_ble_eq_true rfl)) dX7_parks_23 ⟨Nat.le_of_ble_eq_true rfl, Nat.le_of_ble_eq_true rfl⟩) hS hA hP (fun r_4 H locs hw_4 hP hS => ?_)
      try dsimp only at hw_4
      rcases hw_4 with rfl | rfl
      · refine lv_if_eq (tgt := 39) hx hb dX7_parks_26 (by decide) (fun h => absurd h (by decide)) (fun _ => ?_)
        refine lv_iload hx hb dX7_parks_29 (lv_at hl 4 rfl) ?_
        refine lv_iconst (v := 0) hx hb dX7_parks_31 (by decide) ?_
        refine lv_iconst (v := 1) hx hb dX7_parks_32 (by decide) ?_
        refine ro_i (D := D) (va_runS (As := [.int p3, .int 0, .int 1]) (rest := []) ⟨hx, hb, hml, hown, hts⟩ ((k_isIn l D k st lo p3 0 1) H.size) (va_cwS 3 hts (gS tw_593 tw_594 tw_79 tw_595) rfl rfl rfl (by decide +kernel) ⟨Nat.le_of_ble_eq_true rfl, Nat.le_of_ble_eq_true rfl⟩) (pS hS hAlo hlo hP hK (va_Dlo hD hAlo) hZ [] (by decide) rfl) rfl rfl hl.1 rfl (lv_room (Nat.le_of_ble_eq_true rfl)) dX7_parks_33 ⟨Nat.le_of_ble_eq_true rfl, Nat.le_of_ble_eq_true rfl⟩) hS hA hP (fun r_5 H locs hw_5 hP hS => ?_)
        try dsimp only at hw_5
        rcases hw_5 with ⟨rfl, hw_5⟩ | ⟨rfl, hw_5⟩
        · refine lv_if_ne (tgt := 43) hx hb dX7_parks_36 (by decide) (fun _ => ?_) (fun h => absurd h (by decide))
          refine lv_aload_n hx hb dX7_parks_43 rfl (lv_at hl 0 rfl) ?_
          refine va_get (D := D) (ci := 7) (v := .ref (a 68)) (C := RX7) (T := TX7) (N := 12) hx hb hts inX7 hown hK hP 0 rfl rfl 11 (by decide) (hts _ tw_316) (fun _ h9 => h9) rfl dX7_parks_44 ?_
          refine lv_aload_n hx hb dX7_parks_47 rfl (lv_at hl 0 rfl) ?_
          refine va_get (D := D) (ci := 7) (v := .ref (a 3)) (C := RX7) (T := TX7) (N := 12) hx hb hts inX7 hown hK hP 0 rfl rfl 1 (by decide) (hts _ tw_306) (fun _ h9 => h9) rfl dX7_parks_48 ?_
          refine lv_iload_n hx hb dX7_parks_51 rfl (lv_at hl 1 rfl) ?_
          refine va_aldq hx hb hK hP 1 3 rfl rfl (by unfold vp_in; decide) dX7_parks_52 ?_
          refine lv_tr (y := .ref (a 4)) rfl ?_
          refine lv_iload_n hx hb dX7_parks_53 rfl (lv_at hl 2 rfl) ?_
          refine rw_v (D := D) (wr := [((a 0), .inr (7, (fX7 (a 1) (a 3) (a 19) (a 35) (a 40) (nI rk) lfa (a 53) (a 56) (a 63) (a 64) (a 68)))), ((a 3), .inl (k 3, 3, .inr (.inr (.inr (.inr (a3 (a 4) (a 9) (a 14))))))), ((a 9), .inr (5, (fX5 (a 10) (a 11) (a 12) (a 13)))), (aI k (a 10) 10 (vv n1 see1 tm1 g1)), (aI k (a 12) 24 fp1), (aI k (a 13) 4 fl1), ((a 14), .inr (5, (fX5 (a 15) (a 16) (a 17) (a 18)))), (aI k (a 15) 10 (vv n2 see2 tm2 g2)), (aI k (a 17) 24 fp2), (aI k (a 18) 4 fl2), (aI k (a 71) 16 pg)]) (va_runV (As := [.ref (a 4), .int p1]) (rest := []) ⟨hx, hb, hml, hown, hts⟩ ((x_comeTo l D k st lo (a 53) (a 68) (a 69) (a 70) (a 71) pn pf pd pe pb pco (a 4) (a 5) (a 6) (a 7) (a 8) n0 see0 tm0 g0 fp0 fl0 (a 54) (a 55) cc rz ro sd wk br p1 (by first | assumption | omega) (by first | assumption | omega) hbr hpb) H.size) (cwV 2 hts (gV tw_821 tw_822 tw_823 tw_84 tw_824) rfl rfl rfl (by decide +kernel) ⟨Nat.le_of_ble_eq_true rfl, Nat.le_of_ble_eq_true rfl⟩) (pV hS hAlo hlo hP hK (va_Dlo hD hAlo) hZ [17, 18, 19, 2, 3, 4, 5, 14, 15, 16] (by decide +kernel) rfl (ci := 1) (q := (RX1, TX1, 8)) (q0 := 0) rfl rfl) rfl rfl hl.1 rfl (lv_room (Nat.le_of_ble_eq_true rfl)) dX7_parks_54 ⟨Nat.le_of_ble_eq_true rfl, Nat.le_of_ble_eq_true rfl⟩) hS hA hP hD [17, 18, 19, 2, 3, 4, 5, 14, 15, 16] [0, 1, 6, 7, 8, 9, 10, 11, 12, 13, 20] rfl rfl (by decide +kernel) (by decide +kernel) (fun u H locs hw_6 hP hD hS => ?_)
          obtain ⟨pb__6, pco__6⟩ := u
          replace hP : va_P D classes [((a 0), .inr (7, (fX7 (a 1) (a 3) (a 19) (a 35) (a 40) (nI rk) lfa (a 53) (a 56) (a 63) (a 64) (a 68)))), ((a 3), .inl (k 3, 3, .inr (.inr (.inr (.inr (a3 (a 4) (a 9) (a 14))))))), ((a 9), .inr (5, (fX5 (a 10) (a 11) (a 12) (a 13)))), (aI k (a 10) 10 (vv n1 see1 tm1 g1)), (aI k (a 12) 24 fp1), (aI k (a 13) 4 fl1), ((a 14), .inr (5, (fX5 (a 15) (a 16) (a 17) (a 18)))), (aI k (a 15) 10 (vv n2 see2 tm2 g2)), (aI k (a 17) 24 fp2), (aI k (a 18) 4 fl2), (aI k (a 71) 16 pg), ((a 68), .inr (1, (fX1 (a 53) (a 69) (a 70) (a 71) (nI n0) p1 0 0))), (aI k (a 69) 4 (nF pb__6)), (aI k (a 70) 100 pco__6), ((a 4), .inr (5, (fX5 (a 5) (a 6) (a 7) (a 8)))), (aI k (a 5) 10 (vv n0 see0 tm0 g0)), (aI k (a 7) 24 fp0), (aI k (a 8) 4 fl0), ((a 53), .inr (4, (fX4 (a 54) (a 55) (nI cc) (nI rz) ro sd))), (aI k (a 54) 4 wk), (aI k (a 55) 4 (nF br))] H := hP
          replace hD : va_D A [((a 0), .inr (7, (fX7 (a 1) (a 3) (a 19) (a 35) (a 40) (nI rk) lfa (a 53) (a 56) (a 63) (a 64) (a 68)))), ((a 3), .inl (k 3, 3, .inr (.inr (.inr (.inr (a3 (a 4) (a 9) (a 14))))))), ((a 9), .inr (5, (fX5 (a 10) (a 11) (a 12) (a 13)))), (aI k (a 10) 10 (vv n1 see1 tm1 g1)), (aI k (a 12) 24 fp1), (aI k (a 13) 4 fl1), ((a 14), .inr (5, (fX5 (a 15) (a 16) (a 17) (a 18)))), (aI k (a 15) 10 (vv n2 see2 tm2 g2)), (aI k (a 17) 24 fp2), (aI k (a 18) 4 fl2), (aI k (a 71) 16 pg), ((a 68), .inr (1, (fX1 (a 53) (a 69) (a 70) (a 71) (nI n0) p1 0 0))), (aI k (a 69) 4 (nF pb__6)), (aI k (a 70) 100 pco__6), ((a 4), .inr (5, (fX5 (a 5) (a 6) (a 7) (a 8)))), (aI k (a 5) 10 (vv n0 see0 tm0 g0)), (aI k (a 7) 24 fp0), (aI k (a 8) 4 fl0), ((a 53), .inr (4, (fX4 (a 54) (a 55) (nI cc) (nI rz) ro sd))), (aI k (a 54) 4 wk), (aI k (a 55) 4 (nF br))] := hD
          try dsimp only at hw_6
          refine lv_aload_n hx hb dX7_parks_57 rfl (lv_at hl 0 rfl) ?_
          refine va_get (D := D) (ci := 7) (v := .ref (a 68)) (C := RX7) (T := TX7) (N := 12) hx hb hts inX7 hown hK hP 0 rfl rfl 11 (by decide) (hts _ tw_316) (fun _ h9 => h9) rfl dX7_parks_58 ?_
          refine lv_iload_n hx hb dX7_parks_61 rfl (lv_at hl 3 rfl) ?_
          refine ro_i (D := D) (va_runV (As := [.int (nI ic_3)]) (rest := []) ⟨hx, hb, hml, hown, hts⟩ ((x_placeOf l D k st lo (a 53) (a 68) (a 69) (a 70) (a 71) n0 p1 0 0 pb__6 ic_3 (by first | assumption | omega) (by first | assumption | omega) hw_6) H.size) (cwV 1 hts (gV tw_830 tw_831 tw_832 tw_84 tw_833) rfl rfl rfl (by decide +kernel) ⟨Nat.le_of_ble_eq_true rfl, Nat.le_of_ble_eq_true rfl⟩) (pV hS hAlo hlo hP hK (va_Dlo hD hAlo) hZ [11, 12] (by decide) rfl (ci := 1) (q := (RX1, TX1, 8)) (q0 := 0) rfl rfl) rfl rfl hl.1 rfl (lv_room (Nat.le_of_ble_eq_true rfl)) dX7_parks_62 ⟨Nat.le_of_ble_eq_true rfl, Nat.le_of_ble_eq_true rfl⟩) hS hA hP (fun r_7 H locs hw_7 hP hS => ?_)
          try dsimp only at hw_7
          obtain ⟨zp_8, hzp_8, rfl⟩ := hw_7
          refine lv_istore (lv' := [(5, .int (nI zp_8)), (0, .ref (a 0)), (1, .int 0), (2, .int p1), (3, .int (nI ic_3)), (4, .int p3)]) hx hb dX7_parks_65 hl (by decide) rfl (fun ls hl => ?_)
          refine lv_iload hx hb dX7_parks_67 (lv_at hl 5 rfl) ?_
          refine lv_iconst (v := 1) hx hb dX7_parks_69 (by decide) ?_
          refine lv_icmp_ne (tgt := 84) hx hb dX7_parks_70 (by decide) (fun c_9 => ?_) (fun c_9 => ?_)
          · refine lv_iload hx hb dX7_parks_84 (lv_at hl 0 rfl) ?_
            refine lv_aload_n hx hb dX7_parks_86 rfl (lv_at hl 1 rfl) ?_
            refine va_get (D := D) (ci := 7) (v := .ref (a 3)) (C := RX7) (T := TX7) (N := 12) hx hb hts inX7 hown hK hP 0 rfl rfl 1 (by decide) (hts _ tw_306) (fun _ h9 => h9) rfl dX7_parks_87 ?_
            refine lv_iload_n hx hb dX7_parks_90 rfl (lv_at hl 2 rfl) ?_
            refine va_aldq hx hb hK hP 1 3 rfl rfl (by unfold vp_in; decide) dX7_parks_91 ?_
            refine lv_tr (y := .ref (a 4)) rfl ?_
            refine ro_i (D := D) (va_runV (As := []) (rest := [.int (nI zp_8)]) ⟨hx, hb, hml, hown, hts⟩ ((x_doors l D k st lo (a 4) (a 5) (a 6) (a 7) (a 8) n0 see0 tm0 g0) H.size) (cwV 0 hts (gV tw_580 tw_478 tw_479 tw_81 tw_480) rfl rfl rfl (by decide +kernel) ⟨Nat.le_of_ble_eq_true rfl, Nat.le_of_ble_eq_true rfl⟩) (pV hS hAlo hlo hP hK (va_Dlo hD hAlo) hZ [14, 15] (by decide) rfl (ci := 5) (q := (RX5, TX5, 4)) (q0 := 0) rfl rfl) rfl rfl hl.1 rfl (lv_room (Nat.le_of_ble_eq_true rfl)) dX7_parks_92 ⟨Nat.le_of_ble_eq_true rfl, Nat.le_of_ble_eq_true rfl⟩) hS hA hP (fun r_10 H locs hw_10 hP hS => ?_)
            try dsimp only at hw_10
            subst hw_10
            refine lv_icmp_ge (tgt := 103) hx hb dX7_parks_95 (by decide) (fun c_11 => ?_) (fun c_11 => ?_)
            · have c_11 := (nI_leI (a := n0) (b := zp_8) (by omega) (by omega)).mp c_11
              refine lv_iconst (v := (-1)) hx hb dX7_parks_103 (by decide) ?_
              have hP9 := hP.sub (ws' := [((a 0), .inr (7, (fX7 (a 1) (a 3) (a 19) (a 35) (a 40) (nI rk) lfa (a 53) (a 56) (a 63) (a 64) (a 68)))), ((a 3), .inl (k 3, 3, .inr (.inr (.inr (.inr (a3 (a 4) (a 9) (a 14))))))), ((a 4), .inr (5, (fX5 (a 5) (a 6) (a 7) (a 8)))), (aI k (a 5) 10 (vv n0 see0 tm0 g0)), (aI k (a 7) 24 fp0), (aI k (a 8) 4 fl0), ((a 9), .inr (5, (fX5 (a 10) (a 11) (a 12) (a 13)))), (aI k (a 10) 10 (vv n1 see1 tm1 g1)), (aI k (a 12) 24 fp1), (aI k (a 13) 4 fl1), ((a 14), .inr (5, (fX5 (a 15) (a 16) (a 17) (a 18)))), (aI k (a 15) 10 (vv n2 see2 tm2 g2)), (aI k (a 17) 24 fp2), (aI k (a 18) 4 fl2), ((a 53), .inr (4, (fX4 (a 54) (a 55) (nI cc) (nI rz) ro sd))), (aI k (a 54) 4 wk), (aI k (a 55) 4 (nF br)), ((a 68), .inr (1, (fX1 (a 53) (a 69) (a 70) (a 71) (nI n0) p1 0 0))), (aI k (a 69) 4 (nF pb__6)), (aI k (a 70) 100 pco__6), (aI k (a 71) 16 pg)]) [0, 1, 14, 15, 16, 17, 2, 3, 4, 5, 6, 7, 8, 9, 18, 19, 20, 11, 12, 13, 10] rfl
              have hD9 := hD.sub (ws' := [((a 0), .inr (7, (fX7 (a 1) (a 3) (a 19) (a 35) (a 40) (nI rk) lfa (a 53) (a 56) (a 63) (a 64) (a 68)))), ((a 3), .inl (k 3, 3, .inr (.inr (.inr (.inr (a3 (a 4) (a 9) (a 14))))))), ((a 4), .inr (5, (fX5 (a 5) (a 6) (a 7) (a 8)))), (aI k (a 5) 10 (vv n0 see0 tm0 g0)), (aI k (a 7) 24 fp0), (aI k (a 8) 4 fl0), ((a 9), .inr (5, (fX5 (a 10) (a 11) (a 12) (a 13)))), (aI k (a 10) 10 (vv n1 see1 tm1 g1)), (aI k (a 12) 24 fp1), (aI k (a 13) 4 fl1), ((a 14), .inr (5, (fX5 (a 15) (a 16) (a 17) (a 18)))), (aI k (a 15) 10 (vv n2 see2 tm2 g2)), (aI k (a 17) 24 fp2), (aI k (a 18) 4 fl2), ((a 53), .inr (4, (fX4 (a 54) (a 55) (nI cc) (nI rz) ro sd))), (aI k (a 54) 4 wk), (aI k (a 55) 4 (nF br)), ((a 68), .inr (1, (fX1 (a 53) (a 69) (a 70) (a 71) (nI n0) p1 0 0))), (aI k (a 69) 4 (nF pb__6)), (aI k (a 70) 100 pco__6), (aI k (a 71) 16 pg)]) [0, 1, 14, 15, 16, 17, 2, 3, 4, 5, 6, 7, 8, 9, 18, 19, 20, 11, 12, 13, 10] (by decide +kernel) rfl
              exact W.iret (v := (-1)) hx hb hr (fun t ht hW => ⟨⟨(-1), ((nI n0), p1, 0, 0, pb__6, pco__6), rfl, hw_6, by rw [ht]; exact hP9, hD9⟩, hS.F ht⟩) hS.2.2 dX7_parks_104
            · have c_11 : ¬ (n0 ≤ zp_8) := fun h => c_11 ((nI_leI (a := n0) (b := zp_8) (by omega) (by omega)).mpr h)
              refine lv_iload hx hb dX7_parks_98 (lv_at hl 0 rfl) ?_
              refine lv_goto (tgt := 104) hx hb dX7_parks_100 (by decide) ?_
              have hP9 := hP.sub (ws' := [((a 0), .inr (7, (fX7 (a 1) (a 3) (a 19) (a 35) (a 40) (nI rk) lfa (a 53) (a 56) (a 63) (a 64) (a 68)))), ((a 3), .inl (k 3, 3, .inr (.inr (.inr (.inr (a3 (a 4) (a 9) (a 14))))))), ((a 4), .inr (5, (fX5 (a 5) (a 6) (a 7) (a 8)))), (aI k (a 5) 10 (vv n0 see0 tm0 g0)), (aI k (a 7) 24 fp0), (aI k (a 8) 4 fl0), ((a 9), .inr (5, (fX5 (a 10) (a 11) (a 12) (a 13)))), (aI k (a 10) 10 (vv n1 see1 tm1 g1)), (aI k (a 12) 24 fp1), (aI k (a 13) 4 fl1), ((a 14), .inr (5, (fX5 (a 15) (a 16) (a 17) (a 18)))), (aI k (a 15) 10 (vv n2 see2 tm2 g2)), (aI k (a 17) 24 fp2), (aI k (a 18) 4 fl2), ((a 53), .inr (4, (fX4 (a 54) (a 55) (nI cc) (nI rz) ro sd))), (aI k (a 54) 4 wk), (aI k (a 55) 4 (nF br)), ((a 68), .inr (1, (fX1 (a 53) (a 69) (a 70) (a 71) (nI n0) p1 0 0))), (aI k (a 69) 4 (nF pb__6)), (aI k (a 70) 100 pco__6), (aI k (a 71) 16 pg)]) [0, 1, 14, 15, 16, 17, 2, 3, 4, 5, 6, 7, 8, 9, 18, 19, 20, 11, 12, 13, 10] rfl
              have hD9 := hD.sub (ws' := [((a 0), .inr (7, (fX7 (a 1) (a 3) (a 19) (a 35) (a 40) (nI rk) lfa (a 53) (a 56) (a 63) (a 64) (a 68)))), ((a 3), .inl (k 3, 3, .inr (.inr (.inr (.inr (a3 (a 4) (a 9) (a 14))))))), ((a 4), .inr (5, (fX5 (a 5) (a 6) (a 7) (a 8)))), (aI k (a 5) 10 (vv n0 see0 tm0 g0)), (aI k (a 7) 24 fp0), (aI k (a 8) 4 fl0), ((a 9), .inr (5, (fX5 (a 10) (a 11) (a 12) (a 13)))), (aI k (a 10) 10 (vv n1 see1 tm1 g1)), (aI k (a 12) 24 fp1), (aI k (a 13) 4 fl1), ((a 14), .inr (5, (fX5 (a 15) (a 16) (a 17) (a 18)))), (aI k (a 15) 10 (vv n2 see2 tm2 g2)), (aI k (a 17) 24 fp2), (aI k (a 18) 4 fl2), ((a 53), .inr (4, (fX4 (a 54) (a 55) (nI cc) (nI rz) ro sd))), (aI k (a 54) 4 wk), (aI k (a 55) 4 (nF br)), ((a 68), .inr (1, (fX1 (a 53) (a 69) (a 70) (a 71) (nI n0) p1 0 0))), (aI k (a 69) 4 (nF pb__6)), (aI k (a 70) 100 pco__6), (aI k (a 71) 16 pg)]) [0, 1, 14, 15, 16, 17, 2, 3, 4, 5, 6, 7, 8, 9, 18, 19, 20, 11, 12, 13, 10] (by decide +kernel) rfl
              exact W.iret (v := (nI zp_8)) hx hb hr (fun t ht hW => ⟨⟨(nI zp_8), ((nI n0), p1, 0, 0, pb__6, pco__6), rfl, hw_6, by rw [ht]; exact hP9, hD9⟩, hS.F ht⟩) hS.2.2 dX7_parks_104
          · refine lv_aload_n hx hb dX7_parks_73 rfl (lv_at hl 1 rfl) ?_
            refine va_get (D := D) (ci := 7) (v := .ref (a 68)) (C := RX7) (T := TX7) (N := 12) hx hb hts inX7 hown hK hP 0 rfl rfl 11 (by decide) (hts _ tw_316) (fun _ h9 => h9) rfl dX7_parks_74 ?_
            refine lv_iload_n hx hb dX7_parks_77 rfl (lv_at hl 4 rfl) ?_
            refine lv_iload hx hb dX7_parks_78 (lv_at hl 0 rfl) ?_
            refine ro_i (D := D) (va_runV (As := [.int (nI ic_3), .int (nI zp_8)]) (rest := []) ⟨hx, hb, hml, hown, hts⟩ ((x_costAt l D k st lo (a 53) (a 68) (a 69) (a 70) (a 71) n0 p1 0 0 pco__6 ic_3 zp_8 (by first | assumption | omega) (by first | assumption | omega)) H.size) (cwV 2 hts (gV tw_842 tw_843 tw_844 tw_84 tw_845) rfl rfl rfl (by decide +kernel) ⟨Nat.le_of_ble_eq_true rfl, Nat.le_of_ble_eq_true rfl⟩) (pV hS hAlo hlo hP hK (va_Dlo hD hAlo) hZ [11, 13] (by decide) rfl (ci := 1) (q := (RX1, TX1, 8)) (q0 := 0) rfl rfl) rfl rfl hl.1 rfl (lv_room (Nat.le_of_ble_eq_true rfl)) dX7_parks_80 ⟨Nat.le_of_ble_eq_true rfl, Nat.le_of_ble_eq_true rfl⟩) hS hA hP (fun r_12 H locs hw_12 hP hS => ?_)
            try dsimp only at hw_12
            have hP9 := hP.sub (ws' := [((a 0), .inr (7, (fX7 (a 1) (a 3) (a 19) (a 35) (a 40) (nI rk) lfa (a 53) (a 56) (a 63) (a 64) (a 68)))), ((a 3), .inl (k 3, 3, .inr (.inr (.inr (.inr (a3 (a 4) (a 9) (a 14))))))), ((a 4), .inr (5, (fX5 (a 5) (a 6) (a 7) (a 8)))), (aI k (a 5) 10 (vv n0 see0 tm0 g0)), (aI k (a 7) 24 fp0), (aI k (a 8) 4 fl0), ((a 9), .inr (5, (fX5 (a 10) (a 11) (a 12) (a 13)))), (aI k (a 10) 10 (vv n1 see1 tm1 g1)), (aI k (a 12) 24 fp1), (aI k (a 13) 4 fl1), ((a 14), .inr (5, (fX5 (a 15) (a 16) (a 17) (a 18)))), (aI k (a 15) 10 (vv n2 see2 tm2 g2)), (aI k (a 17) 24 fp2), (aI k (a 18) 4 fl2), ((a 53), .inr (4, (fX4 (a 54) (a 55) (nI cc) (nI rz) ro sd))), (aI k (a 54) 4 wk), (aI k (a 55) 4 (nF br)), ((a 68), .inr (1, (fX1 (a 53) (a 69) (a 70) (a 71) (nI n0) p1 0 0))), (aI k (a 69) 4 (nF pb__6)), (aI k (a 70) 100 pco__6), (aI k (a 71) 16 pg)]) [0, 1, 14, 15, 16, 17, 2, 3, 4, 5, 6, 7, 8, 9, 18, 19, 20, 11, 12, 13, 10] rfl
            have hD9 := hD.sub (ws' := [((a 0), .inr (7, (fX7 (a 1) (a 3) (a 19) (a 35) (a 40) (nI rk) lfa (a 53) (a 56) (a 63) (a 64) (a 68)))), ((a 3), .inl (k 3, 3, .inr (.inr (.inr (.inr (a3 (a 4) (a 9) (a 14))))))), ((a 4), .inr (5, (fX5 (a 5) (a 6) (a 7) (a 8)))), (aI k (a 5) 10 (vv n0 see0 tm0 g0)), (aI k (a 7) 24 fp0), (aI k (a 8) 4 fl0), ((a 9), .inr (5, (fX5 (a 10) (a 11) (a 12) (a 13)))), (aI k (a 10) 10 (vv n1 see1 tm1 g1)), (aI k (a 12) 24 fp1), (aI k (a 13) 4 fl1), ((a 14), .inr (5, (fX5 (a 15) (a 16) (a 17) (a 18)))), (aI k (a 15) 10 (vv n2 see2 tm2 g2)), (aI k (a 17) 24 fp2), (aI k (a 18) 4 fl2), ((a 53), .inr (4, (fX4 (a 54) (a 55) (nI cc) (nI rz) ro sd))), (aI k (a 54) 4 wk), (aI k (a 55) 4 (nF br)), ((a 68), .inr (1, (fX1 (a 53) (a 69) (a 70) (a 71) (nI n0) p1 0 0))), (aI k (a 69) 4 (nF pb__6)), (aI k (a 70) 100 pco__6), (aI k (a 71) 16 pg)]) [0, 1, 14, 15, 16, 17, 2, 3, 4, 5, 6, 7, 8, 9, 18, 19, 20, 11, 12, 13, 10] (by decide +kernel) rfl
            exact W.iret (v := r_12) hx hb hr (fun t ht hW => ⟨⟨r_12, ((nI n0), p1, 0, 0, pb__6, pco__6), rfl, hw_6, by rw [ht]; exact hP9, hD9⟩, hS.F ht⟩) hS.2.2 dX7_parks_83
        · refine lv_if_ne (tgt := 43) hx hb dX7_parks_36 (by decide) (fun h => absurd (by decide) h) (fun _ => ?_)
          refine lv_sipush (v := (-1002)) hx hb dX7_parks_39 (by decide) ?_
          have hP9 := hP.sub (ws' := [((a 0), .inr (7, (fX7 (a 1) (a 3) (a 19) (a 35) (a 40) (nI rk) lfa (a 53) (a 56) (a 63) (a 64) (a 68)))), ((a 3), .inl (k 3, 3, .inr (.inr (.inr (.inr (a3 (a 4) (a 9) (a 14))))))), ((a 4), .inr (5, (fX5 (a 5) (a 6) (a 7) (a 8)))), (aI k (a 5) 10 (vv n0 see0 tm0 g0)), (aI k (a 7) 24 fp0), (aI k (a 8) 4 fl0), ((a 9), .inr (5, (fX5 (a 10) (a 11) (a 12) (a 13)))), (aI k (a 10) 10 (vv n1 see1 tm1 g1)), (aI k (a 12) 24 fp1), (aI k (a 13) 4 fl1), ((a 14), .inr (5, (fX5 (a 15) (a 16) (a 17) (a 18)))), (aI k (a 15) 10 (vv n2 see2 tm2 g2)), (aI k (a 17) 24 fp2), (aI k (a 18) 4 fl2), ((a 53), .inr (4, (fX4 (a 54) (a 55) (nI cc) (nI rz) ro sd))), (aI k (a 54) 4 wk), (aI k (a 55) 4 (nF br)), ((a 68), .inr (1, (fX1 (a 53) (a 69) (a 70) (a 71) pn pf pd pe))), (aI k (a 69) 4 (nF pb)), (aI k (a 70) 100 pco), (aI k (a 71) 16 pg)]) [0, 1, 2, 3, 4, 5, 6, 7, 8, 9, 10, 11, 12, 13, 14, 15, 16, 17, 18, 19, 20] rfl
          have hD9 := hD.sub (ws' := [((a 0), .inr (7, (fX7 (a 1) (a 3) (a 19) (a 35) (a 40) (nI rk) lfa (a 53) (a 56) (a 63) (a 64) (a 68)))), ((a 3), .inl (k 3, 3, .inr (.inr (.inr (.inr (a3 (a 4) (a 9) (a 14))))))), ((a 4), .inr (5, (fX5 (a 5) (a 6) (a 7) (a 8)))), (aI k (a 5) 10 (vv n0 see0 tm0 g0)), (aI k (a 7) 24 fp0), (aI k (a 8) 4 fl0), ((a 9), .inr (5, (fX5 (a 10) (a 11) (a 12) (a 13)))), (aI k (a 10) 10 (vv n1 see1 tm1 g1)), (aI k (a 12) 24 fp1), (aI k (a 13) 4 fl1), ((a 14), .inr (5, (fX5 (a 15) (a 16) (a 17) (a 18)))), (aI k (a 15) 10 (vv n2 see2 tm2 g2)), (aI k (a 17) 24 fp2), (aI k (a 18) 4 fl2), ((a 53), .inr (4, (fX4 (a 54) (a 55) (nI cc) (nI rz) ro sd))), (aI k (a 54) 4 wk), (aI k (a 55) 4 (nF br)), ((a 68), .inr (1, (fX1 (a 53) (a 69) (a 70) (a 71) pn pf pd pe))), (aI k (a 69) 4 (nF pb)), (aI k (a 70) 100 pco), (aI k (a 71) 16 pg)]) [0, 1, 2, 3, 4, 5, 6, 7, 8, 9, 10, 11, 12, 13, 14, 15, 16, 17, 18, 19, 20] (by decide +kernel) rfl
          exact W.iret (v := (-1002)) hx hb hr (fun t ht hW => ⟨⟨(-1002), (pn, pf, pd, pe, pb, pco), rfl, hpb, by rw [ht]; exact hP9, hD9⟩, hS.F ht⟩) hS.2.2 dX7_parks_42
      · refine lv_if_eq (tgt := 39) hx hb dX7_parks_26 (by decide) (fun _ => ?_) (fun h => absurd (by decide) h)
        refine lv_sipush (v := (-1002)) hx hb dX7_parks_39 (by decide) ?_
        have hP9 := hP.sub (ws' := [((a 0), .inr (7, (fX7 (a 1) (a 3) (a 19) (a 35) (a 40) (nI rk) lfa (a 53) (a 56) (a 63) (a 64) (a 68)))), ((a 3), .inl (k 3, 3, .inr (.inr (.inr (.inr (a3 (a 4) (a 9) (a 14))))))), ((a 4), .inr (5, (fX5 (a 5) (a 6) (a 7) (a 8)))), (aI k (a 5) 10 (vv n0 see0 tm0 g0)), (aI k (a 7) 24 fp0), (aI k (a 8) 4 fl0), ((a 9), .inr (5, (fX5 (a 10) (a 11) (a 12) (a 13)))), (aI k (a 10) 10 (vv n1 see1 tm1 g1)), (aI k (a 12) 24 fp1), (aI k (a 13) 4 fl1), ((a 14), .inr (5, (fX5 (a 15) (a 16) (a 17) (a 18)))), (aI k (a 15) 10 (vv n2 see2 tm2 g2)), (aI k (a 17) 24 fp2), (aI k (a 18) 4 fl2), ((a 53), .inr (4, (fX4 (a 54) (a 55) (nI cc) (nI rz) ro sd))), (aI k (a 54) 4 wk), (aI k (a 55) 4 (nF br)), ((a 68), .inr (1, (fX1 (a 53) (a 69) (a 70) (a 71) pn pf pd pe))), (aI k (a 69) 4 (nF pb)), (aI k (a 70) 100 pco), (aI k (a 71) 16 pg)]) [0, 1, 2, 3, 4, 5, 6, 7, 8, 9, 10, 11, 12, 13, 14, 15, 16, 17, 18, 19, 20] rfl
        have hD9 := hD.sub (ws' := [((a 0), .inr (7, (fX7 (a 1) (a 3) (a 19) (a 35) (a 40) (nI rk) lfa (a 53) (a 56) (a 63) (a 64) (a 68)))), ((a 3), .inl (k 3, 3, .inr (.inr (.inr (.inr (a3 (a 4) (a 9) (a 14))))))), ((a 4), .inr (5, (fX5 (a 5) (a 6) (a 7) (a 8)))), (aI k (a 5) 10 (vv n0 see0 tm0 g0)), (aI k (a 7) 24 fp0), (aI k (a 8) 4 fl0), ((a 9), .inr (5, (fX5 (a 10) (a 11) (a 12) (a 13)))), (aI k (a 10) 10 (vv n1 see1 tm1 g1)), (aI k (a 12) 24 fp1), (aI k (a 13) 4 fl1), ((a 14), .inr (5, (fX5 (a 15) (a 16) (a 17) (a 18)))), (aI k (a 15) 10 (vv n2 see2 tm2 g2)), (aI k (a 17) 24 fp2), (aI k (a 18) 4 fl2), ((a 53), .inr (4, (fX4 (a 54) (a 55) (nI cc) (nI rz) ro sd))), (aI k (a 54) 4 wk), (aI k (a 55) 4 (nF br)), ((a 68), .inr (1, (fX1 (a 53) (a 69) (a 70) (a 71) pn pf pd pe))), (aI k (a 69) 4 (nF pb)), (aI k (a 70) 100 pco), (aI k (a 71) 16 pg)]) [0, 1, 2, 3, 4, 5, 6, 7, 8, 9, 10, 11, 12, 13, 14, 15, 16, 17, 18, 19, 20] (by decide +kernel) rfl
        exact W.iret (v := (-1002)) hx hb hr (fun t ht hW => ⟨⟨(-1002), (pn, pf, pd, pe, pb, pco), rfl, hpb, by rw [ht]; exact hP9, hD9⟩, hS.F ht⟩) hS.2.2 dX7_parks_42
    · refine lv_if_ne (tgt := 20) hx hb dX7_parks_13 (by decide) (fun h => absurd (by decide) h) (fun _ => ?_)
      refine lv_sipush (v := (-1001)) hx hb dX7_parks_16 (by decide) ?_
      have hP9 := hP.sub (ws' := [((a 0), .inr (7, (fX7 (a 1) (a 3) (a 19) (a 35) (a 40) (nI rk) lfa (a 53) (a 56) (a 63) (a 64) (a 68)))), ((a 3), .inl (k 3, 3, .inr (.inr (.inr (.inr (a3 (a 4) (a 9) (a 14))))))), ((a 4), .inr (5, (fX5 (a 5) (a 6) (a 7) (a 8)))), (aI k (a 5) 10 (vv n0 see0 tm0 g0)), (aI k (a 7) 24 fp0), (aI k (a 8) 4 fl0), ((a 9), .inr (5, (fX5 (a 10) (a 11) (a 12) (a 13)))), (aI k (a 10) 10 (vv n1 see1 tm1 g1)), (aI k (a 12) 24 fp1), (aI k (a 13) 4 fl1), ((a 14), .inr (5, (fX5 (a 15) (a 16) (a 17) (a 18)))), (aI k (a 15) 10 (vv n2 see2 tm2 g2)), (aI k (a 17) 24 fp2), (aI k (a 18) 4 fl2), ((a 53), .inr (4, (fX4 (a 54) (a 55) (nI cc) (nI rz) ro sd))), (aI k (a 54) 4 wk), (aI k (a 55) 4 (nF br)), ((a 68), .inr (1, (fX1 (a 53) (a 69) (a 70) (a 71) pn pf pd pe))), (aI k (a 69) 4 (nF pb)), (aI k (a 70) 100 pco), (aI k (a 71) 16 pg)]) [0, 1, 2, 3, 4, 5, 6, 7, 8, 9, 10, 11, 12, 13, 14, 15, 16, 17, 18, 19, 20] rfl
      have hD9 := hD.sub (ws' := [((a 0), .inr (7, (fX7 (a 1) (a 3) (a 19) (a 35) (a 40) (nI rk) lfa (a 53) (a 56) (a 63) (a 64) (a 68)))), ((a 3), .inl (k 3, 3, .inr (.inr (.inr (.inr (a3 (a 4) (a 9) (a 14))))))), ((a 4), .inr (5, (fX5 (a 5) (a 6) (a 7) (a 8)))), (aI k (a 5) 10 (vv n0 see0 tm0 g0)), (aI k (a 7) 24 fp0), (aI k (a 8) 4 fl0), ((a 9), .inr (5, (fX5 (a 10) (a 11) (a 12) (a 13)))), (aI k (a 10) 10 (vv n1 see1 tm1 g1)), (aI k (a 12) 24 fp1), (aI k (a 13) 4 fl1), ((a 14), .inr (5, (fX5 (a 15) (a 16) (a 17) (a 18)))), (aI k (a 15) 10 (vv n2 see2 tm2 g2)), (aI k (a 17) 24 fp2), (aI k (a 18) 4 fl2), ((a 53), .inr (4, (fX4 (a 54) (a 55) (nI cc) (nI rz) ro sd))), (aI k (a 54) 4 wk), (aI k (a 55) 4 (nF br)), ((a 68), .inr (1, (fX1 (a 53) (a 69) (a 70) (a 71) pn pf pd pe))), (aI k (a 69) 4 (nF pb)), (aI k (a 70) 100 pco), (aI k (a 71) 16 pg)]) [0, 1, 2, 3, 4, 5, 6, 7, 8, 9, 10, 11, 12, 13, 14, 15, 16, 17, 18, 19, 20] (by decide +kernel) rfl
      exact W.iret (v := (-1001)) hx hb hr (fun t ht hW => ⟨⟨(-1001), (pn, pf, pd, pe, pb, pco), rfl, hpb, by rw [ht]; exact hP9, hD9⟩, hS.F ht⟩) hS.2.2 dX7_parks_19
  · refine lv_if_eq (tgt := 16) hx hb dX7_parks_5 (by decide) (fun h => absurd h (by decide)) (fun _ => ?_)
    refine lv_aload_n hx hb dX7_parks_8 rfl (lv_at hl 0 rfl) ?_
    refine lv_iload_n hx hb dX7_parks_9 rfl (lv_at hl 3 rfl) ?_
    refine ro_i (D := D) (va_runV (As := [.int p2]) (rest := []) ⟨hx, hb, hml, hown, hts⟩ ((x_isCar l D k st lo a rk lfa cc rz ro sd p2 (by first | assumption | omega)) H.size) (cwV 1 hts (gV tw_809 tw_811 tw_17 tw_79 tw_812) rfl rfl rfl (by decide +kernel) ⟨Nat.le_of_ble_eq_true rfl, Nat.le_of_ble_eq_true rfl⟩) (pV hS hAlo hlo hP hK (va_Dlo hD hAlo) hZ [0, 14] (by decide) rfl (ci := 7) (q := (RX7, TX7, 12)) (q0 := 0) rfl rfl) rfl rfl hl.1 rfl (lv_room (Nat.le_of_ble_eq_true rfl)) dX7_parks_10 ⟨Nat.le_of_ble_eq_true rfl, Nat.le_of_ble_eq_true rfl⟩) hS hA hP (fun r_13 H locs hw_13 hP hS => ?_)
    try dsimp only at hw_13
    rcases hw_13 with ⟨rfl, ic_14, hic_14, rfl⟩ | rfl
    · refine lv_if_ne (tgt := 20) hx hb dX7_parks_13 (by decide) (fun _ => ?_) (fun h => absurd h (by decide))
      refine lv_aload_n hx hb dX7_parks_20 rfl (lv_at hl 0 rfl) ?_
      refine lv_iload_n hx hb dX7_parks_21 rfl (lv_at hl 1 rfl) ?_
      refine lv_iload_n hx hb dX7_parks_22 rfl (lv_at hl 2 rfl) ?_
      refine ro_i (D := D) (va_runV (As := [.int 1, .int p1]) (rest := []) ⟨hx, hb, hml, hown, hts⟩ ((x_isSet_1 l D k st lo a rk lfa n1 see1 tm1 g1 p1) H.size) (cwV 2 hts (gV tw_817 tw_819 tw_18 tw_79 tw_820) rfl rfl rfl (by decide +kernel) ⟨Nat.le_of_ble_eq_true rfl, Nat.le_of_ble_eq_true rfl⟩) (pV hS hAlo hlo hP hK (va_Dlo hD hAlo) hZ [0, 1, 6, 7] (by decide) rfl (ci := 7) (q := (RX7, TX7, 12)) (q0 := 0) rfl rfl) rfl rfl hl.1 rfl (lv_room (Nat.le_of_ble_eq_true rfl)) dX7_parks_23 ⟨Nat.le_of_ble_eq_true rfl, Nat.le_of_ble_eq_true rfl⟩) hS hA hP (fun r_15 H locs hw_15 hP hS => ?_)
      try dsimp only at hw_15
      rcases hw_15 with rfl | rfl
      · refine lv_if_eq (tgt := 39) hx hb dX7_parks_26 (by decide) (fun h => absurd h (by decide)) (fun _ => ?_)
        refine lv_iload hx hb dX7_parks_29 (lv_at hl 4 rfl) ?_
        refine lv_iconst (v := 0) hx hb dX7_parks_31 (by decide) ?_
        refine lv_iconst (v := 1) hx hb dX7_parks_32 (by decide) ?_
        refine ro_i (D := D) (va_runS (As := [.int p3, .int 0, .int 1]) (rest := []) ⟨hx, hb, hml, hown, hts⟩ ((k_isIn l D k st lo p3 0 1) H.size) (va_cwS 3 hts (gS tw_593 tw_594 tw_79 tw_595) rfl rfl rfl (by decide +kernel) ⟨Nat.le_of_ble_eq_true rfl, Nat.le_of_ble_eq_true rfl⟩) (pS hS hAlo hlo hP hK (va_Dlo hD hAlo) hZ [] (by decide) rfl) rfl rfl hl.1 rfl (lv_room (Nat.le_of_ble_eq_true rfl)) dX7_parks_33 ⟨Nat.le_of_ble_eq_true rfl, Nat.le_of_ble_eq_true rfl⟩) hS hA hP (fun r_16 H locs hw_16 hP hS => ?_)
        try dsimp only at hw_16
        rcases hw_16 with ⟨rfl, hw_16⟩ | ⟨rfl, hw_16⟩
        · refine lv_if_ne (tgt := 43) hx hb dX7_parks_36 (by decide) (fun _ => ?_) (fun h => absurd h (by decide))
          refine lv_aload_n hx hb dX7_parks_43 rfl (lv_at hl 0 rfl) ?_
          refine va_get (D := D) (ci := 7) (v := .ref (a 68)) (C := RX7) (T := TX7) (N := 12) hx hb hts inX7 hown hK hP 0 rfl rfl 11 (by decide) (hts _ tw_316) (fun _ h9 => h9) rfl dX7_parks_44 ?_
          refine lv_aload_n hx hb dX7_parks_47 rfl (lv_at hl 0 rfl) ?_
          refine va_get (D := D) (ci := 7) (v := .ref (a 3)) (C := RX7) (T := TX7) (N := 12) hx hb hts inX7 hown hK hP 0 rfl rfl 1 (by decide) (hts _ tw_306) (fun _ h9 => h9) rfl dX7_parks_48 ?_
          refine lv_iload_n hx hb dX7_parks_51 rfl (lv_at hl 1 rfl) ?_
          refine va_aldq hx hb hK hP 1 3 rfl rfl (by unfold vp_in; decide) dX7_parks_52 ?_
          refine lv_tr (y := .ref (a 9)) rfl ?_
          refine lv_iload_n hx hb dX7_parks_53 rfl (lv_at hl 2 rfl) ?_
          refine rw_v (D := D) (wr := [((a 0), .inr (7, (fX7 (a 1) (a 3) (a 19) (a 35) (a 40) (nI rk) lfa (a 53) (a 56) (a 63) (a 64) (a 68)))), ((a 3), .inl (k 3, 3, .inr (.inr (.inr (.inr (a3 (a 4) (a 9) (a 14))))))), ((a 4), .inr (5, (fX5 (a 5) (a 6) (a 7) (a 8)))), (aI k (a 5) 10 (vv n0 see0 tm0 g0)), (aI k (a 7) 24 fp0), (aI k (a 8) 4 fl0), ((a 14), .inr (5, (fX5 (a 15) (a 16) (a 17) (a 18)))), (aI k (a 15) 10 (vv n2 see2 tm2 g2)), (aI k (a 17) 24 fp2), (aI k (a 18) 4 fl2), (aI k (a 71) 16 pg)]) (va_runV (As := [.ref (a 9), .int p1]) (rest := []) ⟨hx, hb, hml, hown, hts⟩ ((x_comeTo l D k st lo (a 53) (a 68) (a 69) (a 70) (a 71) pn pf pd pe pb pco (a 9) (a 10) (a 11) (a 12) (a 13) n1 see1 tm1 g1 fp1 fl1 (a 54) (a 55) cc rz ro sd wk br p1 (by first | assumption | omega) (by first | assumption | omega) hbr hpb) H.size) (cwV 2 hts (gV tw_821 tw_822 tw_823 tw_84 tw_824) rfl rfl rfl (by decide +kernel) ⟨Nat.le_of_ble_eq_true rfl, Nat.le_of_ble_eq_true rfl⟩) (pV hS hAlo hlo hP hK (va_Dlo hD hAlo) hZ [17, 18, 19, 6, 7, 8, 9, 14, 15, 16] (by decide +kernel) rfl (ci := 1) (q := (RX1, TX1, 8)) (q0 := 0) rfl rfl) rfl rfl hl.1 rfl (lv_room (Nat.le_of_ble_eq_true rfl)) dX7_parks_54 ⟨Nat.le_of_ble_eq_true rfl, Nat.le_of_ble_eq_true rfl⟩) hS hA hP hD [17, 18, 19, 6, 7, 8, 9, 14, 15, 16] [0, 1, 2, 3, 4, 5, 10, 11, 12, 13, 20] rfl rfl (by decide +kernel) (by decide +kernel) (fun u H locs hw_17 hP hD hS => ?_)
          obtain ⟨pb__17, pco__17⟩ := u
          replace hP : va_P D classes [((a 0), .inr (7, (fX7 (a 1) (a 3) (a 19) (a 35) (a 40) (nI rk) lfa (a 53) (a 56) (a 63) (a 64) (a 68)))), ((a 3), .inl (k 3, 3, .inr (.inr (.inr (.inr (a3 (a 4) (a 9) (a 14))))))), ((a 4), .inr (5, (fX5 (a 5) (a 6) (a 7) (a 8)))), (aI k (a 5) 10 (vv n0 see0 tm0 g0)), (aI k (a 7) 24 fp0), (aI k (a 8) 4 fl0), ((a 14), .inr (5, (fX5 (a 15) (a 16) (a 17) (a 18)))), (aI k (a 15) 10 (vv n2 see2 tm2 g2)), (aI k (a 17) 24 fp2), (aI k (a 18) 4 fl2), (aI k (a 71) 16 pg), ((a 68), .inr (1, (fX1 (a 53) (a 69) (a 70) (a 71) (nI n1) p1 0 0))), (aI k (a 69) 4 (nF pb__17)), (aI k (a 70) 100 pco__17), ((a 9), .inr (5, (fX5 (a 10) (a 11) (a 12) (a 13)))), (aI k (a 10) 10 (vv n1 see1 tm1 g1)), (aI k (a 12) 24 fp1), (aI k (a 13) 4 fl1), ((a 53), .inr (4, (fX4 (a 54) (a 55) (nI cc) (nI rz) ro sd))), (aI k (a 54) 4 wk), (aI k (a 55) 4 (nF br))] H := hP
          replace hD : va_D A [((a 0), .inr (7, (fX7 (a 1) (a 3) (a 19) (a 35) (a 40) (nI rk) lfa (a 53) (a 56) (a 63) (a 64) (a 68)))), ((a 3), .inl (k 3, 3, .inr (.inr (.inr (.inr (a3 (a 4) (a 9) (a 14))))))), ((a 4), .inr (5, (fX5 (a 5) (a 6) (a 7) (a 8)))), (aI k (a 5) 10 (vv n0 see0 tm0 g0)), (aI k (a 7) 24 fp0), (aI k (a 8) 4 fl0), ((a 14), .inr (5, (fX5 (a 15) (a 16) (a 17) (a 18)))), (aI k (a 15) 10 (vv n2 see2 tm2 g2)), (aI k (a 17) 24 fp2), (aI k (a 18) 4 fl2), (aI k (a 71) 16 pg), ((a 68), .inr (1, (fX1 (a 53) (a 69) (a 70) (a 71) (nI n1) p1 0 0))), (aI k (a 69) 4 (nF pb__17)), (aI k (a 70) 100 pco__17), ((a 9), .inr (5, (fX5 (a 10) (a 11) (a 12) (a 13)))), (aI k (a 10) 10 (vv n1 see1 tm1 g1)), (aI k (a 12) 24 fp1), (aI k (a 13) 4 fl1), ((a 53), .inr (4, (fX4 (a 54) (a 55) (nI cc) (nI rz) ro sd))), (aI k (a 54) 4 wk), (aI k (a 55) 4 (nF br))] := hD
          try dsimp only at hw_17
          refine lv_aload_n hx hb dX7_parks_57 rfl (lv_at hl 0 rfl) ?_
          refine va_get (D := D) (ci := 7) (v := .ref (a 68)) (C := RX7) (T := TX7) (N := 12) hx hb hts inX7 hown hK hP 0 rfl rfl 11 (by decide) (hts _ tw_316) (fun _ h9 => h9) rfl dX7_parks_58 ?_
          refine lv_iload_n hx hb dX7_parks_61 rfl (lv_at hl 3 rfl) ?_
          refine ro_i (D := D) (va_runV (As := [.int (nI ic_14)]) (rest := []) ⟨hx, hb, hml, hown, hts⟩ ((x_placeOf l D k st lo (a 53) (a 68) (a 69) (a 70) (a 71) n1 p1 0 0 pb__17 ic_14 (by first | assumption | omega) (by first | assumption | omega) hw_17) H.size) (cwV 1 hts (gV tw_830 tw_831 tw_832 tw_84 tw_833) rfl rfl rfl (by decide +kernel) ⟨Nat.le_of_ble_eq_true rfl, Nat.le_of_ble_eq_true rfl⟩) (pV hS hAlo hlo hP hK (va_Dlo hD hAlo) hZ [11, 12] (by decide) rfl (ci := 1) (q := (RX1, TX1, 8)) (q0 := 0) rfl rfl) rfl rfl hl.1 rfl (lv_room (Nat.le_of_ble_eq_true rfl)) dX7_parks_62 ⟨Nat.le_of_ble_eq_true rfl, Nat.le_of_ble_eq_true rfl⟩) hS hA hP (fun r_18 H locs hw_18 hP hS => ?_)
          try dsimp only at hw_18
          obtain ⟨zp_19, hzp_19, rfl⟩ := hw_18
          refine lv_istore (lv' := [(5, .int (nI zp_19)), (0, .ref (a 0)), (1, .int 1), (2, .int p1), (3, .int (nI ic_14)), (4, .int p3)]) hx hb dX7_parks_65 hl (by decide) rfl (fun ls hl => ?_)
          refine lv_iload hx hb dX7_parks_67 (lv_at hl 5 rfl) ?_
          refine lv_iconst (v := 1) hx hb dX7_parks_69 (by decide) ?_
          refine lv_icmp_ne (tgt := 84) hx hb dX7_parks_70 (by decide) (fun c_20 => ?_) (fun c_20 => ?_)
          · refine lv_iload hx hb dX7_parks_84 (lv_at hl 0 rfl) ?_
            refine lv_aload_n hx hb dX7_parks_86 rfl (lv_at hl 1 rfl) ?_
            refine va_get (D := D) (ci := 7) (v := .ref (a 3)) (C := RX7) (T := TX7) (N := 12) hx hb hts inX7 hown hK hP 0 rfl rfl 1 (by decide) (hts _ tw_306) (fun _ h9 => h9) rfl dX7_parks_87 ?_
            refine lv_iload_n hx hb dX7_parks_90 rfl (lv_at hl 2 rfl) ?_
            refine va_aldq hx hb hK hP 1 3 rfl rfl (by unfold vp_in; decide) dX7_parks_91 ?_
            refine lv_tr (y := .ref (a 9)) rfl ?_
            refine ro_i (D := D) (va_runV (As := []) (rest := [.int (nI zp_19)]) ⟨hx, hb, hml, hown, hts⟩ ((x_doors l D k st lo (a 9) (a 10) (a 11) (a 12) (a 13) n1 see1 tm1 g1) H.size) (cwV 0 hts (gV tw_580 tw_478 tw_479 tw_81 tw_480) rfl rfl rfl (by decide +kernel) ⟨Nat.le_of_ble_eq_true rfl, Nat.le_of_ble_eq_true rfl⟩) (pV hS hAlo hlo hP hK (va_Dlo hD hAlo) hZ [14, 15] (by decide) rfl (ci := 5) (q := (RX5, TX5, 4)) (q0 := 0) rfl rfl) rfl rfl hl.1 rfl (lv_room (Nat.le_of_ble_eq_true rfl)) dX7_parks_92 ⟨Nat.le_of_ble_eq_true rfl, Nat.le_of_ble_eq_true rfl⟩) hS hA hP (fun r_21 H locs hw_21 hP hS => ?_)
            try dsimp only at hw_21
            subst hw_21
            refine lv_icmp_ge (tgt := 103) hx hb dX7_parks_95 (by decide) (fun c_22 => ?_) (fun c_22 => ?_)
            · have c_22 := (nI_leI (a := n1) (b := zp_19) (by omega) (by omega)).mp c_22
              refine lv_iconst (v := (-1)) hx hb dX7_parks_103 (by decide) ?_
              have hP9 := hP.sub (ws' := [((a 0), .inr (7, (fX7 (a 1) (a 3) (a 19) (a 35) (a 40) (nI rk) lfa (a 53) (a 56) (a 63) (a 64) (a 68)))), ((a 3), .inl (k 3, 3, .inr (.inr (.inr (.inr (a3 (a 4) (a 9) (a 14))))))), ((a 4), .inr (5, (fX5 (a 5) (a 6) (a 7) (a 8)))), (aI k (a 5) 10 (vv n0 see0 tm0 g0)), (aI k (a 7) 24 fp0), (aI k (a 8) 4 fl0), ((a 9), .inr (5, (fX5 (a 10) (a 11) (a 12) (a 13)))), (aI k (a 10) 10 (vv n1 see1 tm1 g1)), (aI k (a 12) 24 fp1), (aI k (a 13) 4 fl1), ((a 14), .inr (5, (fX5 (a 15) (a 16) (a 17) (a 18)))), (aI k (a 15) 10 (vv n2 see2 tm2 g2)), (aI k (a 17) 24 fp2), (aI k (a 18) 4 fl2), ((a 53), .inr (4, (fX4 (a 54) (a 55) (nI cc) (nI rz) ro sd))), (aI k (a 54) 4 wk), (aI k (a 55) 4 (nF br)), ((a 68), .inr (1, (fX1 (a 53) (a 69) (a 70) (a 71) (nI n1) p1 0 0))), (aI k (a 69) 4 (nF pb__17)), (aI k (a 70) 100 pco__17), (aI k (a 71) 16 pg)]) [0, 1, 2, 3, 4, 5, 14, 15, 16, 17, 6, 7, 8, 9, 18, 19, 20, 11, 12, 13, 10] rfl
              have hD9 := hD.sub (ws' := [((a 0), .inr (7, (fX7 (a 1) (a 3) (a 19) (a 35) (a 40) (nI rk) lfa (a 53) (a 56) (a 63) (a 64) (a 68)))), ((a 3), .inl (k 3, 3, .inr (.inr (.inr (.inr (a3 (a 4) (a 9) (a 14))))))), ((a 4), .inr (5, (fX5 (a 5) (a 6) (a 7) (a 8)))), (aI k (a 5) 10 (vv n0 see0 tm0 g0)), (aI k (a 7) 24 fp0), (aI k (a 8) 4 fl0), ((a 9), .inr (5, (fX5 (a 10) (a 11) (a 12) (a 13)))), (aI k (a 10) 10 (vv n1 see1 tm1 g1)), (aI k (a 12) 24 fp1), (aI k (a 13) 4 fl1), ((a 14), .inr (5, (fX5 (a 15) (a 16) (a 17) (a 18)))), (aI k (a 15) 10 (vv n2 see2 tm2 g2)), (aI k (a 17) 24 fp2), (aI k (a 18) 4 fl2), ((a 53), .inr (4, (fX4 (a 54) (a 55) (nI cc) (nI rz) ro sd))), (aI k (a 54) 4 wk), (aI k (a 55) 4 (nF br)), ((a 68), .inr (1, (fX1 (a 53) (a 69) (a 70) (a 71) (nI n1) p1 0 0))), (aI k (a 69) 4 (nF pb__17)), (aI k (a 70) 100 pco__17), (aI k (a 71) 16 pg)]) [0, 1, 2, 3, 4, 5, 14, 15, 16, 17, 6, 7, 8, 9, 18, 19, 20, 11, 12, 13, 10] (by decide +kernel) rfl
              exact W.iret (v := (-1)) hx hb hr (fun t ht hW => ⟨⟨(-1), ((nI n1), p1, 0, 0, pb__17, pco__17), rfl, hw_17, by rw [ht]; exact hP9, hD9⟩, hS.F ht⟩) hS.2.2 dX7_parks_104
            · have c_22 : ¬ (n1 ≤ zp_19) := fun h => c_22 ((nI_leI (a := n1) (b := zp_19) (by omega) (by omega)).mpr h)
              refine lv_iload hx hb dX7_parks_98 (lv_at hl 0 rfl) ?_
              refine lv_goto (tgt := 104) hx hb dX7_parks_100 (by decide) ?_
              have hP9 := hP.sub (ws' := [((a 0), .inr (7, (fX7 (a 1) (a 3) (a 19) (a 35) (a 40) (nI rk) lfa (a 53) (a 56) (a 63) (a 64) (a 68)))), ((a 3), .inl (k 3, 3, .inr (.inr (.inr (.inr (a3 (a 4) (a 9) (a 14))))))), ((a 4), .inr (5, (fX5 (a 5) (a 6) (a 7) (a 8)))), (aI k (a 5) 10 (vv n0 see0 tm0 g0)), (aI k (a 7) 24 fp0), (aI k (a 8) 4 fl0), ((a 9), .inr (5, (fX5 (a 10) (a 11) (a 12) (a 13)))), (aI k (a 10) 10 (vv n1 see1 tm1 g1)), (aI k (a 12) 24 fp1), (aI k (a 13) 4 fl1), ((a 14), .inr (5, (fX5 (a 15) (a 16) (a 17) (a 18)))), (aI k (a 15) 10 (vv n2 see2 tm2 g2)), (aI k (a 17) 24 fp2), (aI k (a 18) 4 fl2), ((a 53), .inr (4, (fX4 (a 54) (a 55) (nI cc) (nI rz) ro sd))), (aI k (a 54) 4 wk), (aI k (a 55) 4 (nF br)), ((a 68), .inr (1, (fX1 (a 53) (a 69) (a 70) (a 71) (nI n1) p1 0 0))), (aI k (a 69) 4 (nF pb__17)), (aI k (a 70) 100 pco__17), (aI k (a 71) 16 pg)]) [0, 1, 2, 3, 4, 5, 14, 15, 16, 17, 6, 7, 8, 9, 18, 19, 20, 11, 12, 13, 10] rfl
              have hD9 := hD.sub (ws' := [((a 0), .inr (7, (fX7 (a 1) (a 3) (a 19) (a 35) (a 40) (nI rk) lfa (a 53) (a 56) (a 63) (a 64) (a 68)))), ((a 3), .inl (k 3, 3, .inr (.inr (.inr (.inr (a3 (a 4) (a 9) (a 14))))))), ((a 4), .inr (5, (fX5 (a 5) (a 6) (a 7) (a 8)))), (aI k (a 5) 10 (vv n0 see0 tm0 g0)), (aI k (a 7) 24 fp0), (aI k (a 8) 4 fl0), ((a 9), .inr (5, (fX5 (a 10) (a 11) (a 12) (a 13)))), (aI k (a 10) 10 (vv n1 see1 tm1 g1)), (aI k (a 12) 24 fp1), (aI k (a 13) 4 fl1), ((a 14), .inr (5, (fX5 (a 15) (a 16) (a 17) (a 18)))), (aI k (a 15) 10 (vv n2 see2 tm2 g2)), (aI k (a 17) 24 fp2), (aI k (a 18) 4 fl2), ((a 53), .inr (4, (fX4 (a 54) (a 55) (nI cc) (nI rz) ro sd))), (aI k (a 54) 4 wk), (aI k (a 55) 4 (nF br)), ((a 68), .inr (1, (fX1 (a 53) (a 69) (a 70) (a 71) (nI n1) p1 0 0))), (aI k (a 69) 4 (nF pb__17)), (aI k (a 70) 100 pco__17), (aI k (a 71) 16 pg)]) [0, 1, 2, 3, 4, 5, 14, 15, 16, 17, 6, 7, 8, 9, 18, 19, 20, 11, 12, 13, 10] (by decide +kernel) rfl
              exact W.iret (v := (nI zp_19)) hx hb hr (fun t ht hW => ⟨⟨(nI zp_19), ((nI n1), p1, 0, 0, pb__17, pco__17), rfl, hw_17, by rw [ht]; exact hP9, hD9⟩, hS.F ht⟩) hS.2.2 dX7_parks_104
          · refine lv_aload_n hx hb dX7_parks_73 rfl (lv_at hl 1 rfl) ?_
            refine va_get (D := D) (ci := 7) (v := .ref (a 68)) (C := RX7) (T := TX7) (N := 12) hx hb hts inX7 hown hK hP 0 rfl rfl 11 (by decide) (hts _ tw_316) (fun _ h9 => h9) rfl dX7_parks_74 ?_
            refine lv_iload_n hx hb dX7_parks_77 rfl (lv_at hl 4 rfl) ?_
            refine lv_iload hx hb dX7_parks_78 (lv_at hl 0 rfl) ?_
            refine ro_i (D := D) (va_runV (As := [.int (nI ic_14), .int (nI zp_19)]) (rest := []) ⟨hx, hb, hml, hown, hts⟩ ((x_costAt l D k st lo (a 53) (a 68) (a 69) (a 70) (a 71) n1 p1 0 0 pco__17 ic_14 zp_19 (by first | assumption | omega) (by first | assumption | omega)) H.size) (cwV 2 hts (gV tw_842 tw_843 tw_844 tw_84 tw_845) rfl rfl rfl (by decide +kernel) ⟨Nat.le_of_ble_eq_true rfl, Nat.le_of_ble_eq_true rfl⟩) (pV hS hAlo hlo hP hK (va_Dlo hD hAlo) hZ [11, 13] (by decide) rfl (ci := 1) (q := (RX1, TX1, 8)) (q0 := 0) rfl rfl) rfl rfl hl.1 rfl (lv_room (Nat.le_of_ble_eq_true rfl)) dX7_parks_80 ⟨Nat.le_of_ble_eq_true rfl, Nat.le_of_ble_eq_true rfl⟩) hS hA hP (fun r_23 H locs hw_23 hP hS => ?_)
            try dsimp only at hw_23
            have hP9 := hP.sub (ws' := [((a 0), .inr (7, (fX7 (a 1) (a 3) (a 19) (a 35) (a 40) (nI rk) lfa (a 53) (a 56) (a 63) (a 64) (a 68)))), ((a 3), .inl (k 3, 3, .inr (.inr (.inr (.inr (a3 (a 4) (a 9) (a 14))))))), ((a 4), .inr (5, (fX5 (a 5) (a 6) (a 7) (a 8)))), (aI k (a 5) 10 (vv n0 see0 tm0 g0)), (aI k (a 7) 24 fp0), (aI k (a 8) 4 fl0), ((a 9), .inr (5, (fX5 (a 10) (a 11) (a 12) (a 13)))), (aI k (a 10) 10 (vv n1 see1 tm1 g1)), (aI k (a 12) 24 fp1), (aI k (a 13) 4 fl1), ((a 14), .inr (5, (fX5 (a 15) (a 16) (a 17) (a 18)))), (aI k (a 15) 10 (vv n2 see2 tm2 g2)), (aI k (a 17) 24 fp2), (aI k (a 18) 4 fl2), ((a 53), .inr (4, (fX4 (a 54) (a 55) (nI cc) (nI rz) ro sd))), (aI k (a 54) 4 wk), (aI k (a 55) 4 (nF br)), ((a 68), .inr (1, (fX1 (a 53) (a 69) (a 70) (a 71) (nI n1) p1 0 0))), (aI k (a 69) 4 (nF pb__17)), (aI k (a 70) 100 pco__17), (aI k (a 71) 16 pg)]) [0, 1, 2, 3, 4, 5, 14, 15, 16, 17, 6, 7, 8, 9, 18, 19, 20, 11, 12, 13, 10] rfl
            have hD9 := hD.sub (ws' := [((a 0), .inr (7, (fX7 (a 1) (a 3) (a 19) (a 35) (a 40) (nI rk) lfa (a 53) (a 56) (a 63) (a 64) (a 68)))), ((a 3), .inl (k 3, 3, .inr (.inr (.inr (.inr (a3 (a 4) (a 9) (a 14))))))), ((a 4), .inr (5, (fX5 (a 5) (a 6) (a 7) (a 8)))), (aI k (a 5) 10 (vv n0 see0 tm0 g0)), (aI k (a 7) 24 fp0), (aI k (a 8) 4 fl0), ((a 9), .inr (5, (fX5 (a 10) (a 11) (a 12) (a 13)))), (aI k (a 10) 10 (vv n1 see1 tm1 g1)), (aI k (a 12) 24 fp1), (aI k (a 13) 4 fl1), ((a 14), .inr (5, (fX5 (a 15) (a 16) (a 17) (a 18)))), (aI k (a 15) 10 (vv n2 see2 tm2 g2)), (aI k (a 17) 24 fp2), (aI k (a 18) 4 fl2), ((a 53), .inr (4, (fX4 (a 54) (a 55) (nI cc) (nI rz) ro sd))), (aI k (a 54) 4 wk), (aI k (a 55) 4 (nF br)), ((a 68), .inr (1, (fX1 (a 53) (a 69) (a 70) (a 71) (nI n1) p1 0 0))), (aI k (a 69) 4 (nF pb__17)), (aI k (a 70) 100 pco__17), (aI k (a 71) 16 pg)]) [0, 1, 2, 3, 4, 5, 14, 15, 16, 17, 6, 7, 8, 9, 18, 19, 20, 11, 12, 13, 10] (by decide +kernel) rfl
            exact W.iret (v := r_23) hx hb hr (fun t ht hW => ⟨⟨r_23, ((nI n1), p1, 0, 0, pb__17, pco__17), rfl, hw_17, by rw [ht]; exact hP9, hD9⟩, hS.F ht⟩) hS.2.2 dX7_parks_83
        · refine lv_if_ne (tgt := 43) hx hb dX7_parks_36 (by decide) (fun h => absurd (by decide) h) (fun _ => ?_)
          refine lv_sipush (v := (-1002)) hx hb dX7_parks_39 (by decide) ?_
          have hP9 := hP.sub (ws' := [((a 0), .inr (7, (fX7 (a 1) (a 3) (a 19) (a 35) (a 40) (nI rk) lfa (a 53) (a 56) (a 63) (a 64) (a 68)))), ((a 3), .inl (k 3, 3, .inr (.inr (.inr (.inr (a3 (a 4) (a 9) (a 14))))))), ((a 4), .inr (5, (fX5 (a 5) (a 6) (a 7) (a 8)))), (aI k (a 5) 10 (vv n0 see0 tm0 g0)), (aI k (a 7) 24 fp0), (aI k (a 8) 4 fl0), ((a 9), .inr (5, (fX5 (a 10) (a 11) (a 12) (a 13)))), (aI k (a 10) 10 (vv n1 see1 tm1 g1)), (aI k (a 12) 24 fp1), (aI k (a 13) 4 fl1), ((a 14), .inr (5, (fX5 (a 15) (a 16) (a 17) (a 18)))), (aI k (a 15) 10 (vv n2 see2 tm2 g2)), (aI k (a 17) 24 fp2), (aI k (a 18) 4 fl2), ((a 53), .inr (4, (fX4 (a 54) (a 55) (nI cc) (nI rz) ro sd))), (aI k (a 54) 4 wk), (aI k (a 55) 4 (nF br)), ((a 68), .inr (1, (fX1 (a 53) (a 69) (a 70) (a 71) pn pf pd pe))), (aI k (a 69) 4 (nF pb)), (aI k (a 70) 100 pco), (aI k (a 71) 16 pg)]) [0, 1, 2, 3, 4, 5, 6, 7, 8, 9, 10, 11, 12, 13, 14, 15, 16, 17, 18, 19, 20] rfl
          have hD9 := hD.sub (ws' := [((a 0), .inr (7, (fX7 (a 1) (a 3) (a 19) (a 35) (a 40) (nI rk) lfa (a 53) (a 56) (a 63) (a 64) (a 68)))), ((a 3), .inl (k 3, 3, .inr (.inr (.inr (.inr (a3 (a 4) (a 9) (a 14))))))), ((a 4), .inr (5, (fX5 (a 5) (a 6) (a 7) (a 8)))), (aI k (a 5) 10 (vv n0 see0 tm0 g0)), (aI k (a 7) 24 fp0), (aI k (a 8) 4 fl0), ((a 9), .inr (5, (fX5 (a 10) (a 11) (a 12) (a 13)))), (aI k (a 10) 10 (vv n1 see1 tm1 g1)), (aI k (a 12) 24 fp1), (aI k (a 13) 4 fl1), ((a 14), .inr (5, (fX5 (a 15) (a 16) (a 17) (a 18)))), (aI k (a 15) 10 (vv n2 see2 tm2 g2)), (aI k (a 17) 24 fp2), (aI k (a 18) 4 fl2), ((a 53), .inr (4, (fX4 (a 54) (a 55) (nI cc) (nI rz) ro sd))), (aI k (a 54) 4 wk), (aI k (a 55) 4 (nF br)), ((a 68), .inr (1, (fX1 (a 53) (a 69) (a 70) (a 71) pn pf pd pe))), (aI k (a 69) 4 (nF pb)), (aI k (a 70) 100 pco), (aI k (a 71) 16 pg)]) [0, 1, 2, 3, 4, 5, 6, 7, 8, 9, 10, 11, 12, 13, 14, 15, 16, 17, 18, 19, 20] (by decide +kernel) rfl
          exact W.iret (v := (-1002)) hx hb hr (fun t ht hW => ⟨⟨(-1002), (pn, pf, pd, pe, pb, pco), rfl, hpb, by rw [ht]; exact hP9, hD9⟩, hS.F ht⟩) hS.2.2 dX7_parks_42
      · refine lv_if_eq (tgt := 39) hx hb dX7_parks_26 (by decide) (fun _ => ?_) (fun h => absurd (by decide) h)
        refine lv_sipush (v := (-1002)) hx hb dX7_parks_39 (by decide) ?_
        have hP9 := hP.sub (ws' := [((a 0), .inr (7, (fX7 (a 1) (a 3) (a 19) (a 35) (a 40) (nI rk) lfa (a 53) (a 56) (a 63) (a 64) (a 68)))), ((a 3), .inl (k 3, 3, .inr (.inr (.inr (.inr (a3 (a 4) (a 9) (a 14))))))), ((a 4), .inr (5, (fX5 (a 5) (a 6) (a 7) (a 8)))), (aI k (a 5) 10 (vv n0 see0 tm0 g0)), (aI k (a 7) 24 fp0), (aI k (a 8) 4 fl0), ((a 9), .inr (5, (fX5 (a 10) (a 11) (a 12) (a 13)))), (aI k (a 10) 10 (vv n1 see1 tm1 g1)), (aI k (a 12) 24 fp1), (aI k (a 13) 4 fl1), ((a 14), .inr (5, (fX5 (a 15) (a 16) (a 17) (a 18)))), (aI k (a 15) 10 (vv n2 see2 tm2 g2)), (aI k (a 17) 24 fp2), (aI k (a 18) 4 fl2), ((a 53), .inr (4, (fX4 (a 54) (a 55) (nI cc) (nI rz) ro sd))), (aI k (a 54) 4 wk), (aI k (a 55) 4 (nF br)), ((a 68), .inr (1, (fX1 (a 53) (a 69) (a 70) (a 71) pn pf pd pe))), (aI k (a 69) 4 (nF pb)), (aI k (a 70) 100 pco), (aI k (a 71) 16 pg)]) [0, 1, 2, 3, 4, 5, 6, 7, 8, 9, 10, 11, 12, 13, 14, 15, 16, 17, 18, 19, 20] rfl
        have hD9 := hD.sub (ws' := [((a 0), .inr (7, (fX7 (a 1) (a 3) (a 19) (a 35) (a 40) (nI rk) lfa (a 53) (a 56) (a 63) (a 64) (a 68)))), ((a 3), .inl (k 3, 3, .inr (.inr (.inr (.inr (a3 (a 4) (a 9) (a 14))))))), ((a 4), .inr (5, (fX5 (a 5) (a 6) (a 7) (a 8)))), (aI k (a 5) 10 (vv n0 see0 tm0 g0)), (aI k (a 7) 24 fp0), (aI k (a 8) 4 fl0), ((a 9), .inr (5, (fX5 (a 10) (a 11) (a 12) (a 13)))), (aI k (a 10) 10 (vv n1 see1 tm1 g1)), (aI k (a 12) 24 fp1), (aI k (a 13) 4 fl1), ((a 14), .inr (5, (fX5 (a 15) (a 16) (a 17) (a 18)))), (aI k (a 15) 10 (vv n2 see2 tm2 g2)), (aI k (a 17) 24 fp2), (aI k (a 18) 4 fl2), ((a 53), .inr (4, (fX4 (a 54) (a 55) (nI cc) (nI rz) ro sd))), (aI k (a 54) 4 wk), (aI k (a 55) 4 (nF br)), ((a 68), .inr (1, (fX1 (a 53) (a 69) (a 70) (a 71) pn pf pd pe))), (aI k (a 69) 4 (nF pb)), (aI k (a 70) 100 pco), (aI k (a 71) 16 pg)]) [0, 1, 2, 3, 4, 5, 6, 7, 8, 9, 10, 11, 12, 13, 14, 15, 16, 17, 18, 19, 20] (by decide +kernel) rfl
        exact W.iret (v := (-1002)) hx hb hr (fun t ht hW => ⟨⟨(-1002), (pn, pf, pd, pe, pb, pco), rfl, hpb, by rw [ht]; exact hP9, hD9⟩, hS.F ht⟩) hS.2.2 dX7_parks_42
    · refine lv_if_ne (tgt := 20) hx hb dX7_parks_13 (by decide) (fun h => absurd (by decide) h) (fun _ => ?_)
      refine lv_sipush (v := (-1001)) hx hb dX7_parks_16 (by decide) ?_
      have hP9 := hP.sub (ws' := [((a 0), .inr (7, (fX7 (a 1) (a 3) (a 19) (a 35) (a 40) (nI rk) lfa (a 53) (a 56) (a 63) (a 64) (a 68)))), ((a 3), .inl (k 3, 3, .inr (.inr (.inr (.inr (a3 (a 4) (a 9) (a 14))))))), ((a 4), .inr (5, (fX5 (a 5) (a 6) (a 7) (a 8)))), (aI k (a 5) 10 (vv n0 see0 tm0 g0)), (aI k (a 7) 24 fp0), (aI k (a 8) 4 fl0), ((a 9), .inr (5, (fX5 (a 10) (a 11) (a 12) (a 13)))), (aI k (a 10) 10 (vv n1 see1 tm1 g1)), (aI k (a 12) 24 fp1), (aI k (a 13) 4 fl1), ((a 14), .inr (5, (fX5 (a 15) (a 16) (a 17) (a 18)))), (aI k (a 15) 10 (vv n2 see2 tm2 g2)), (aI k (a 17) 24 fp2), (aI k (a 18) 4 fl2), ((a 53), .inr (4, (fX4 (a 54) (a 55) (nI cc) (nI rz) ro sd))), (aI k (a 54) 4 wk), (aI k (a 55) 4 (nF br)), ((a 68), .inr (1, (fX1 (a 53) (a 69) (a 70) (a 71) pn pf pd pe))), (aI k (a 69) 4 (nF pb)), (aI k (a 70) 100 pco), (aI k (a 71) 16 pg)]) [0, 1, 2, 3, 4, 5, 6, 7, 8, 9, 10, 11, 12, 13, 14, 15, 16, 17, 18, 19, 20] rfl
      have hD9 := hD.sub (ws' := [((a 0), .inr (7, (fX7 (a 1) (a 3) (a 19) (a 35) (a 40) (nI rk) lfa (a 53) (a 56) (a 63) (a 64) (a 68)))), ((a 3), .inl (k 3, 3, .inr (.inr (.inr (.inr (a3 (a 4) (a 9) (a 14))))))), ((a 4), .inr (5, (fX5 (a 5) (a 6) (a 7) (a 8)))), (aI k (a 5) 10 (vv n0 see0 tm0 g0)), (aI k (a 7) 24 fp0), (aI k (a 8) 4 fl0), ((a 9), .inr (5, (fX5 (a 10) (a 11) (a 12) (a 13)))), (aI k (a 10) 10 (vv n1 see1 tm1 g1)), (aI k (a 12) 24 fp1), (aI k (a 13) 4 fl1), ((a 14), .inr (5, (fX5 (a 15) (a 16) (a 17) (a 18)))), (aI k (a 15) 10 (vv n2 see2 tm2 g2)), (aI k (a 17) 24 fp2), (aI k (a 18) 4 fl2), ((a 53), .inr (4, (fX4 (a 54) (a 55) (nI cc) (nI rz) ro sd))), (aI k (a 54) 4 wk), (aI k (a 55) 4 (nF br)), ((a 68), .inr (1, (fX1 (a 53) (a 69) (a 70) (a 71) pn pf pd pe))), (aI k (a 69) 4 (nF pb)), (aI k (a 70) 100 pco), (aI k (a 71) 16 pg)]) [0, 1, 2, 3, 4, 5, 6, 7, 8, 9, 10, 11, 12, 13, 14, 15, 16, 17, 18, 19, 20] (by decide +kernel) rfl
      exact W.iret (v := (-1001)) hx hb hr (fun t ht hW => ⟨⟨(-1001), (pn, pf, pd, pe, pb, pco), rfl, hpb, by rw [ht]; exact hP9, hD9⟩, hS.F ht⟩) hS.2.2 dX7_parks_19
  · refine lv_if_eq (tgt := 16) hx hb dX7_parks_5 (by decide) (fun h => absurd h (by decide)) (fun _ => ?_)
    refine lv_aload_n hx hb dX7_parks_8 rfl (lv_at hl 0 rfl) ?_
    refine lv_iload_n hx hb dX7_parks_9 rfl (lv_at hl 3 rfl) ?_
    refine ro_i (D := D) (va_runV (As := [.int p2]) (rest := []) ⟨hx, hb, hml, hown, hts⟩ ((x_isCar l D k st lo a rk lfa cc rz ro sd p2 (by first | assumption | omega)) H.size) (cwV 1 hts (gV tw_809 tw_811 tw_17 tw_79 tw_812) rfl rfl rfl (by decide +kernel) ⟨Nat.le_of_ble_eq_true rfl, Nat.le_of_ble_eq_true rfl⟩) (pV hS hAlo hlo hP hK (va_Dlo hD hAlo) hZ [0, 14] (by decide) rfl (ci := 7) (q := (RX7, TX7, 12)) (q0 := 0) rfl rfl) rfl rfl hl.1 rfl (lv_room (Nat.le_of_ble_eq_true rfl)) dX7_parks_10 ⟨Nat.le_of_ble_eq_true rfl, Nat.le_of_ble_eq_true rfl⟩) hS hA hP (fun r_24 H locs hw_24 hP hS => ?_)
    try dsimp only at hw_24
    rcases hw_24 with ⟨rfl, ic_25, hic_25, rfl⟩ | rfl
    · refine lv_if_ne (tgt := 20) hx hb dX7_parks_13 (by decide) (fun _ => ?_) (fun h => absurd h (by decide))
      refine lv_aload_n hx hb dX7_parks_20 rfl (lv_at hl 0 rfl) ?_
      refine lv_iload_n hx hb dX7_parks_21 rfl (lv_at hl 1 rfl) ?_
      refine lv_iload_n hx hb dX7_parks_22 rfl (lv_at hl 2 rfl) ?_
      refine ro_i (D := D) (va_runV (As := [.int 2, .int p1]) (rest := []) ⟨hx, hb, hml, hown, hts⟩ ((x_isSet_2 l D k st lo a rk lfa n2 see2 tm2 g2 p1) H.size) (cwV 2 hts (gV tw_817 tw_819 tw_18 tw_79 tw_820) rfl rfl rfl (by decide +kernel) ⟨Nat.le_of_ble_eq_true rfl, Nat.le_of_ble_eq_true rfl⟩) (pV hS hAlo hlo hP hK (va_Dlo hD hAlo) hZ [0, 1, 10, 11] (by decide) rfl (ci := 7) (q := (RX7, TX7, 12)) (q0 := 0) rfl rfl) rfl rfl hl.1 rfl (lv_room (Nat.le_of_ble_eq_true rfl)) dX7_parks_23 ⟨Nat.le_of_ble_eq_true rfl, Nat.le_of_ble_eq_true rfl⟩) hS hA hP (fun r_26 H locs hw_26 hP hS => ?_)
      try dsimp only at hw_26
      rcases hw_26 with rfl | rfl
      · refine lv_if_eq (tgt := 39) hx hb dX7_parks_26 (by decide) (fun h => absurd h (by decide)) (fun _ => ?_)
        refine lv_iload hx hb dX7_parks_29 (lv_at hl 4 rfl) ?_
        refine lv_iconst (v := 0) hx hb dX7_parks_31 (by decide) ?_
        refine lv_iconst (v := 1) hx hb dX7_parks_32 (by decide) ?_
        refine ro_i (D := D) (va_runS (As := [.int p3, .int 0, .int 1]) (rest := []) ⟨hx, hb, hml, hown, hts⟩ ((k_isIn l D k st lo p3 0 1) H.size) (va_cwS 3 hts (gS tw_593 tw_594 tw_79 tw_595) rfl rfl rfl (by decide +kernel) ⟨Nat.le_of_ble_eq_true rfl, Nat.le_of_ble_eq_true rfl⟩) (pS hS hAlo hlo hP hK (va_Dlo hD hAlo) hZ [] (by decide) rfl) rfl rfl hl.1 rfl (lv_room (Nat.le_of_ble_eq_true rfl)) dX7_parks_33 ⟨Nat.le_of_ble_eq_true rfl, Nat.le_of_ble_eq_true rfl⟩) hS hA hP (fun r_27 H locs hw_27 hP hS => ?_)
        try dsimp only at hw_27
        rcases hw_27 with ⟨rfl, hw_27⟩ | ⟨rfl, hw_27⟩
        · refine lv_if_ne (tgt := 43) hx hb dX7_parks_36 (by decide) (fun _ => ?_) (fun h => absurd h (by decide))
          refine lv_aload_n hx hb dX7_parks_43 rfl (lv_at hl 0 rfl) ?_
          refine va_get (D := D) (ci := 7) (v := .ref (a 68)) (C := RX7) (T := TX7) (N := 12) hx hb hts inX7 hown hK hP 0 rfl rfl 11 (by decide) (hts _ tw_316) (fun _ h9 => h9) rfl dX7_parks_44 ?_
          refine lv_aload_n hx hb dX7_parks_47 rfl (lv_at hl 0 rfl) ?_
          refine va_get (D := D) (ci := 7) (v := .ref (a 3)) (C := RX7) (T := TX7) (N := 12) hx hb hts inX7 hown hK hP 0 rfl rfl 1 (by decide) (hts _ tw_306) (fun _ h9 => h9) rfl dX7_parks_48 ?_
          refine lv_iload_n hx hb dX7_parks_51 rfl (lv_at hl 1 rfl) ?_
          refine va_aldq hx hb hK hP 1 3 rfl rfl (by unfold vp_in; decide) dX7_parks_52 ?_
          refine lv_tr (y := .ref (a 14)) rfl ?_
          refine lv_iload_n hx hb dX7_parks_53 rfl (lv_at hl 2 rfl) ?_
          refine rw_v (D := D) (wr := [((a 0), .inr (7, (fX7 (a 1) (a 3) (a 19) (a 35) (a 40) (nI rk) lfa (a 53) (a 56) (a 63) (a 64) (a 68)))), ((a 3), .inl (k 3, 3, .inr (.inr (.inr (.inr (a3 (a 4) (a 9) (a 14))))))), ((a 4), .inr (5, (fX5 (a 5) (a 6) (a 7) (a 8)))), (aI k (a 5) 10 (vv n0 see0 tm0 g0)), (aI k (a 7) 24 fp0), (aI k (a 8) 4 fl0), ((a 9), .inr (5, (fX5 (a 10) (a 11) (a 12) (a 13)))), (aI k (a 10) 10 (vv n1 see1 tm1 g1)), (aI k (a 12) 24 fp1), (aI k (a 13) 4 fl1), (aI k (a 71) 16 pg)]) (va_runV (As := [.ref (a 14), .int p1]) (rest := []) ⟨hx, hb, hml, hown, hts⟩ ((x_comeTo l D k st lo (a 53) (a 68) (a 69) (a 70) (a 71) pn pf pd pe pb pco (a 14) (a 15) (a 16) (a 17) (a 18) n2 see2 tm2 g2 fp2 fl2 (a 54) (a 55) cc rz ro sd wk br p1 (by first | assumption | omega) (by first | assumption | omega) hbr hpb) H.size) (cwV 2 hts (gV tw_821 tw_822 tw_823 tw_84 tw_824) rfl rfl rfl (by decide +kernel) ⟨Nat.le_of_ble_eq_true rfl, Nat.le_of_ble_eq_true rfl⟩) (pV hS hAlo hlo hP hK (va_Dlo hD hAlo) hZ [17, 18, 19, 10, 11, 12, 13, 14, 15, 16] (by decide +kernel) rfl (ci := 1) (q := (RX1, TX1, 8)) (q0 := 0) rfl rfl) rfl rfl hl.1 rfl (lv_room (Nat.le_of_ble_eq_true rfl)) dX7_parks_54 ⟨Nat.le_of_ble_eq_true rfl, Nat.le_of_ble_eq_true rfl⟩) hS hA hP hD [17, 18, 19, 10, 11, 12, 13, 14, 15, 16] [0, 1, 2, 3, 4, 5, 6, 7, 8, 9, 20] rfl rfl (by decide +kernel) (by decide +kernel) (fun u H locs hw_28 hP hD hS => ?_)
          obtain ⟨pb__28, pco__28⟩ := u
          replace hP : va_P D classes [((a 0), .inr (7, (fX7 (a 1) (a 3) (a 19) (a 35) (a 40) (nI rk) lfa (a 53) (a 56) (a 63) (a 64) (a 68)))), ((a 3), .inl (k 3, 3, .inr (.inr (.inr (.inr (a3 (a 4) (a 9) (a 14))))))), ((a 4), .inr (5, (fX5 (a 5) (a 6) (a 7) (a 8)))), (aI k (a 5) 10 (vv n0 see0 tm0 g0)), (aI k (a 7) 24 fp0), (aI k (a 8) 4 fl0), ((a 9), .inr (5, (fX5 (a 10) (a 11) (a 12) (a 13)))), (aI k (a 10) 10 (vv n1 see1 tm1 g1)), (aI k (a 12) 24 fp1), (aI k (a 13) 4 fl1), (aI k (a 71) 16 pg), ((a 68), .inr (1, (fX1 (a 53) (a 69) (a 70) (a 71) (nI n2) p1 0 0))), (aI k (a 69) 4 (nF pb__28)), (aI k (a 70) 100 pco__28), ((a 14), .inr (5, (fX5 (a 15) (a 16) (a 17) (a 18)))), (aI k (a 15) 10 (vv n2 see2 tm2 g2)), (aI k (a 17) 24 fp2), (aI k (a 18) 4 fl2), ((a 53), .inr (4, (fX4 (a 54) (a 55) (nI cc) (nI rz) ro sd))), (aI k (a 54) 4 wk), (aI k (a 55) 4 (nF br))] H := hP
          replace hD : va_D A [((a 0), .inr (7, (fX7 (a 1) (a 3) (a 19) (a 35) (a 40) (nI rk) lfa (a 53) (a 56) (a 63) (a 64) (a 68)))), ((a 3), .inl (k 3, 3, .inr (.inr (.inr (.inr (a3 (a 4) (a 9) (a 14))))))), ((a 4), .inr (5, (fX5 (a 5) (a 6) (a 7) (a 8)))), (aI k (a 5) 10 (vv n0 see0 tm0 g0)), (aI k (a 7) 24 fp0), (aI k (a 8) 4 fl0), ((a 9), .inr (5, (fX5 (a 10) (a 11) (a 12) (a 13)))), (aI k (a 10) 10 (vv n1 see1 tm1 g1)), (aI k (a 12) 24 fp1), (aI k (a 13) 4 fl1), (aI k (a 71) 16 pg), ((a 68), .inr (1, (fX1 (a 53) (a 69) (a 70) (a 71) (nI n2) p1 0 0))), (aI k (a 69) 4 (nF pb__28)), (aI k (a 70) 100 pco__28), ((a 14), .inr (5, (fX5 (a 15) (a 16) (a 17) (a 18)))), (aI k (a 15) 10 (vv n2 see2 tm2 g2)), (aI k (a 17) 24 fp2), (aI k (a 18) 4 fl2), ((a 53), .inr (4, (fX4 (a 54) (a 55) (nI cc) (nI rz) ro sd))), (aI k (a 54) 4 wk), (aI k (a 55) 4 (nF br))] := hD
          try dsimp only at hw_28
          refine lv_aload_n hx hb dX7_parks_57 rfl (lv_at hl 0 rfl) ?_
          refine va_get (D := D) (ci := 7) (v := .ref (a 68)) (C := RX7) (T := TX7) (N := 12) hx hb hts inX7 hown hK hP 0 rfl rfl 11 (by decide) (hts _ tw_316) (fun _ h9 => h9) rfl dX7_parks_58 ?_
          refine lv_iload_n hx hb dX7_parks_61 rfl (lv_at hl 3 rfl) ?_
          refine ro_i (D := D) (va_runV (As := [.int (nI ic_25)]) (rest := []) ⟨hx, hb, hml, hown, hts⟩ ((x_placeOf l D k st lo (a 53) (a 68) (a 69) (a 70) (a 71) n2 p1 0 0 pb__28 ic_25 (by first | assumption | omega) (by first | assumption | omega) hw_28) H.size) (cwV 1 hts (gV tw_830 tw_831 tw_832 tw_84 tw_833) rfl rfl rfl (by decide +kernel) ⟨Nat.le_of_ble_eq_true rfl, Nat.le_of_ble_eq_true rfl⟩) (pV hS hAlo hlo hP hK (va_Dlo hD hAlo) hZ [11, 12] (by decide) rfl (ci := 1) (q := (RX1, TX1, 8)) (q0 := 0) rfl rfl) rfl rfl hl.1 rfl (lv_room (Nat.le_of_ble_eq_true rfl)) dX7_parks_62 ⟨Nat.le_of_ble_eq_true rfl, Nat.le_of_ble_eq_true rfl⟩) hS hA hP (fun r_29 H locs hw_29 hP hS => ?_)
          try dsimp only at hw_29
          obtain ⟨zp_30, hzp_30, rfl⟩ := hw_29
          refine lv_istore (lv' := [(5, .int (nI zp_30)), (0, .ref (a 0)), (1, .int 2), (2, .int p1), (3, .int (nI ic_25)), (4, .int p3)]) hx hb dX7_parks_65 hl (by decide) rfl (fun ls hl => ?_)
          refine lv_iload hx hb dX7_parks_67 (lv_at hl 5 rfl) ?_
          refine lv_iconst (v := 1) hx hb dX7_parks_69 (by decide) ?_
          refine lv_icmp_ne (tgt := 84) hx hb dX7_parks_70 (by decide) (fun c_31 => ?_) (fun c_31 => ?_)
          · refine lv_iload hx hb dX7_parks_84 (lv_at hl 0 rfl) ?_
            refine lv_aload_n hx hb dX7_parks_86 rfl (lv_at hl 1 rfl) ?_
            refine va_get (D := D) (ci := 7) (v := .ref (a 3)) (C := RX7) (T := TX7) (N := 12) hx hb hts inX7 hown hK hP 0 rfl rfl 1 (by decide) (hts _ tw_306) (fun _ h9 => h9) rfl dX7_parks_87 ?_
            refine lv_iload_n hx hb dX7_parks_90 rfl (lv_at hl 2 rfl) ?_
            refine va_aldq hx hb hK hP 1 3 rfl rfl (by unfold vp_in; decide) dX7_parks_91 ?_
            refine lv_tr (y := .ref (a 14)) rfl ?_
            refine ro_i (D := D) (va_runV (As := []) (rest := [.int (nI zp_30)]) ⟨hx, hb, hml, hown, hts⟩ ((x_doors l D k st lo (a 14) (a 15) (a 16) (a 17) (a 18) n2 see2 tm2 g2) H.size) (cwV 0 hts (gV tw_580 tw_478 tw_479 tw_81 tw_480) rfl rfl rfl (by decide +kernel) ⟨Nat.le_of_ble_eq_true rfl, Nat.le_of_ble_eq_true rfl⟩) (pV hS hAlo hlo hP hK (va_Dlo hD hAlo) hZ [14, 15] (by decide) rfl (ci := 5) (q := (RX5, TX5, 4)) (q0 := 0) rfl rfl) rfl rfl hl.1 rfl (lv_room (Nat.le_of_ble_eq_true rfl)) dX7_parks_92 ⟨Nat.le_of_ble_eq_true rfl, Nat.le_of_ble_eq_true rfl⟩) hS hA hP (fun r_32 H locs hw_32 hP hS => ?_)
            try dsimp only at hw_32
            subst hw_32
            refine lv_icmp_ge (tgt := 103) hx hb dX7_parks_95 (by decide) (fun c_33 => ?_) (fun c_33 => ?_)
            · have c_33 := (nI_leI (a := n2) (b := zp_30) (by omega) (by omega)).mp c_33
              refine lv_iconst (v := (-1)) hx hb dX7_parks_103 (by decide) ?_
              have hP9 := hP.sub (ws' := [((a 0), .inr (7, (fX7 (a 1) (a 3) (a 19) (a 35) (a 40) (nI rk) lfa (a 53) (a 56) (a 63) (a 64) (a 68)))), ((a 3), .inl (k 3, 3, .inr (.inr (.inr (.inr (a3 (a 4) (a 9) (a 14))))))), ((a 4), .inr (5, (fX5 (a 5) (a 6) (a 7) (a 8)))), (aI k (a 5) 10 (vv n0 see0 tm0 g0)), (aI k (a 7) 24 fp0), (aI k (a 8) 4 fl0), ((a 9), .inr (5, (fX5 (a 10) (a 11) (a 12) (a 13)))), (aI k (a 10) 10 (vv n1 see1 tm1 g1)), (aI k (a 12) 24 fp1), (aI k (a 13) 4 fl1), ((a 14), .inr (5, (fX5 (a 15) (a 16) (a 17) (a 18)))), (aI k (a 15) 10 (vv n2 see2 tm2 g2)), (aI k (a 17) 24 fp2), (aI k (a 18) 4 fl2), ((a 53), .inr (4, (fX4 (a 54) (a 55) (nI cc) (nI rz) ro sd))), (aI k (a 54) 4 wk), (aI k (a 55) 4 (nF br)), ((a 68), .inr (1, (fX1 (a 53) (a 69) (a 70) (a 71) (nI n2) p1 0 0))), (aI k (a 69) 4 (nF pb__28)), (aI k (a 70) 100 pco__28), (aI k (a 71) 16 pg)]) [0, 1, 2, 3, 4, 5, 6, 7, 8, 9, 14, 15, 16, 17, 18, 19, 20, 11, 12, 13, 10] rfl
              have hD9 := hD.sub (ws' := [((a 0), .inr (7, (fX7 (a 1) (a 3) (a 19) (a 35) (a 40) (nI rk) lfa (a 53) (a 56) (a 63) (a 64) (a 68)))), ((a 3), .inl (k 3, 3, .inr (.inr (.inr (.inr (a3 (a 4) (a 9) (a 14))))))), ((a 4), .inr (5, (fX5 (a 5) (a 6) (a 7) (a 8)))), (aI k (a 5) 10 (vv n0 see0 tm0 g0)), (aI k (a 7) 24 fp0), (aI k (a 8) 4 fl0), ((a 9), .inr (5, (fX5 (a 10) (a 11) (a 12) (a 13)))), (aI k (a 10) 10 (vv n1 see1 tm1 g1)), (aI k (a 12) 24 fp1), (aI k (a 13) 4 fl1), ((a 14), .inr (5, (fX5 (a 15) (a 16) (a 17) (a 18)))), (aI k (a 15) 10 (vv n2 see2 tm2 g2)), (aI k (a 17) 24 fp2), (aI k (a 18) 4 fl2), ((a 53), .inr (4, (fX4 (a 54) (a 55) (nI cc) (nI rz) ro sd))), (aI k (a 54) 4 wk), (aI k (a 55) 4 (nF br)), ((a 68), .inr (1, (fX1 (a 53) (a 69) (a 70) (a 71) (nI n2) p1 0 0))), (aI k (a 69) 4 (nF pb__28)), (aI k (a 70) 100 pco__28), (aI k (a 71) 16 pg)]) [0, 1, 2, 3, 4, 5, 6, 7, 8, 9, 14, 15, 16, 17, 18, 19, 20, 11, 12, 13, 10] (by decide +kernel) rfl
              exact W.iret (v := (-1)) hx hb hr (fun t ht hW => ⟨⟨(-1), ((nI n2), p1, 0, 0, pb__28, pco__28), rfl, hw_28, by rw [ht]; exact hP9, hD9⟩, hS.F ht⟩) hS.2.2 dX7_parks_104
            · have c_33 : ¬ (n2 ≤ zp_30) := fun h => c_33 ((nI_leI (a := n2) (b := zp_30) (by omega) (by omega)).mpr h)
              refine lv_iload hx hb dX7_parks_98 (lv_at hl 0 rfl) ?_
              refine lv_goto (tgt := 104) hx hb dX7_parks_100 (by decide) ?_
              have hP9 := hP.sub (ws' := [((a 0), .inr (7, (fX7 (a 1) (a 3) (a 19) (a 35) (a 40) (nI rk) lfa (a 53) (a 56) (a 63) (a 64) (a 68)))), ((a 3), .inl (k 3, 3, .inr (.inr (.inr (.inr (a3 (a 4) (a 9) (a 14))))))), ((a 4), .inr (5, (fX5 (a 5) (a 6) (a 7) (a 8)))), (aI k (a 5) 10 (vv n0 see0 tm0 g0)), (aI k (a 7) 24 fp0), (aI k (a 8) 4 fl0), ((a 9), .inr (5, (fX5 (a 10) (a 11) (a 12) (a 13)))), (aI k (a 10) 10 (vv n1 see1 tm1 g1)), (aI k (a 12) 24 fp1), (aI k (a 13) 4 fl1), ((a 14), .inr (5, (fX5 (a 15) (a 16) (a 17) (a 18)))), (aI k (a 15) 10 (vv n2 see2 tm2 g2)), (aI k (a 17) 24 fp2), (aI k (a 18) 4 fl2), ((a 53), .inr (4, (fX4 (a 54) (a 55) (nI cc) (nI rz) ro sd))), (aI k (a 54) 4 wk), (aI k (a 55) 4 (nF br)), ((a 68), .inr (1, (fX1 (a 53) (a 69) (a 70) (a 71) (nI n2) p1 0 0))), (aI k (a 69) 4 (nF pb__28)), (aI k (a 70) 100 pco__28), (aI k (a 71) 16 pg)]) [0, 1, 2, 3, 4, 5, 6, 7, 8, 9, 14, 15, 16, 17, 18, 19, 20, 11, 12, 13, 10] rfl
              have hD9 := hD.sub (ws' := [((a 0), .inr (7, (fX7 (a 1) (a 3) (a 19) (a 35) (a 40) (nI rk) lfa (a 53) (a 56) (a 63) (a 64) (a 68)))), ((a 3), .inl (k 3, 3, .inr (.inr (.inr (.inr (a3 (a 4) (a 9) (a 14))))))), ((a 4), .inr (5, (fX5 (a 5) (a 6) (a 7) (a 8)))), (aI k (a 5) 10 (vv n0 see0 tm0 g0)), (aI k (a 7) 24 fp0), (aI k (a 8) 4 fl0), ((a 9), .inr (5, (fX5 (a 10) (a 11) (a 12) (a 13)))), (aI k (a 10) 10 (vv n1 see1 tm1 g1)), (aI k (a 12) 24 fp1), (aI k (a 13) 4 fl1), ((a 14), .inr (5, (fX5 (a 15) (a 16) (a 17) (a 18)))), (aI k (a 15) 10 (vv n2 see2 tm2 g2)), (aI k (a 17) 24 fp2), (aI k (a 18) 4 fl2), ((a 53), .inr (4, (fX4 (a 54) (a 55) (nI cc) (nI rz) ro sd))), (aI k (a 54) 4 wk), (aI k (a 55) 4 (nF br)), ((a 68), .inr (1, (fX1 (a 53) (a 69) (a 70) (a 71) (nI n2) p1 0 0))), (aI k (a 69) 4 (nF pb__28)), (aI k (a 70) 100 pco__28), (aI k (a 71) 16 pg)]) [0, 1, 2, 3, 4, 5, 6, 7, 8, 9, 14, 15, 16, 17, 18, 19, 20, 11, 12, 13, 10] (by decide +kernel) rfl
              exact W.iret (v := (nI zp_30)) hx hb hr (fun t ht hW => ⟨⟨(nI zp_30), ((nI n2), p1, 0, 0, pb__28, pco__28), rfl, hw_28, by rw [ht]; exact hP9, hD9⟩, hS.F ht⟩) hS.2.2 dX7_parks_104
          · refine lv_aload_n hx hb dX7_parks_73 rfl (lv_at hl 1 rfl) ?_
            refine va_get (D := D) (ci := 7) (v := .ref (a 68)) (C := RX7) (T := TX7) (N := 12) hx hb hts inX7 hown hK hP 0 rfl rfl 11 (by decide) (hts _ tw_316) (fun _ h9 => h9) rfl dX7_parks_74 ?_
            refine lv_iload_n hx hb dX7_parks_77 rfl (lv_at hl 4 rfl) ?_
            refine lv_iload hx hb dX7_parks_78 (lv_at hl 0 rfl) ?_
            refine ro_i (D := D) (va_runV (As := [.int (nI ic_25), .int (nI zp_30)]) (rest := []) ⟨hx, hb, hml, hown, hts⟩ ((x_costAt l D k st lo (a 53) (a 68) (a 69) (a 70) (a 71) n2 p1 0 0 pco__28 ic_25 zp_30 (by first | assumption | omega) (by first | assumption | omega)) H.size) (cwV 2 hts (gV tw_842 tw_843 tw_844 tw_84 tw_845) rfl rfl rfl (by decide +kernel) ⟨Nat.le_of_ble_eq_true rfl, Nat.le_of_ble_eq_true rfl⟩) (pV hS hAlo hlo hP hK (va_Dlo hD hAlo) hZ [11, 13] (by decide) rfl (ci := 1) (q := (RX1, TX1, 8)) (q0 := 0) rfl rfl) rfl rfl hl.1 rfl (lv_room (Nat.le_of_ble_eq_true rfl)) dX7_parks_80 ⟨Nat.le_of_ble_eq_true rfl, Nat.le_of_ble_eq_true rfl⟩) hS hA hP (fun r_34 H locs hw_34 hP hS => ?_)
            try dsimp only at hw_34
            have hP9 := hP.sub (ws' := [((a 0), .inr (7, (fX7 (a 1) (a 3) (a 19) (a 35) (a 40) (nI rk) lfa (a 53) (a 56) (a 63) (a 64) (a 68)))), ((a 3), .inl (k 3, 3, .inr (.inr (.inr (.inr (a3 (a 4) (a 9) (a 14))))))), ((a 4), .inr (5, (fX5 (a 5) (a 6) (a 7) (a 8)))), (aI k (a 5) 10 (vv n0 see0 tm0 g0)), (aI k (a 7) 24 fp0), (aI k (a 8) 4 fl0), ((a 9), .inr (5, (fX5 (a 10) (a 11) (a 12) (a 13)))), (aI k (a 10) 10 (vv n1 see1 tm1 g1)), (aI k (a 12) 24 fp1), (aI k (a 13) 4 fl1), ((a 14), .inr (5, (fX5 (a 15) (a 16) (a 17) (a 18)))), (aI k (a 15) 10 (vv n2 see2 tm2 g2)), (aI k (a 17) 24 fp2), (aI k (a 18) 4 fl2), ((a 53), .inr (4, (fX4 (a 54) (a 55) (nI cc) (nI rz) ro sd))), (aI k (a 54) 4 wk), (aI k (a 55) 4 (nF br)), ((a 68), .inr (1, (fX1 (a 53) (a 69) (a 70) (a 71) (nI n2) p1 0 0))), (aI k (a 69) 4 (nF pb__28)), (aI k (a 70) 100 pco__28), (aI k (a 71) 16 pg)]) [0, 1, 2, 3, 4, 5, 6, 7, 8, 9, 14, 15, 16, 17, 18, 19, 20, 11, 12, 13, 10] rfl
            have hD9 := hD.sub (ws' := [((a 0), .inr (7, (fX7 (a 1) (a 3) (a 19) (a 35) (a 40) (nI rk) lfa (a 53) (a 56) (a 63) (a 64) (a 68)))), ((a 3), .inl (k 3, 3, .inr (.inr (.inr (.inr (a3 (a 4) (a 9) (a 14))))))), ((a 4), .inr (5, (fX5 (a 5) (a 6) (a 7) (a 8)))), (aI k (a 5) 10 (vv n0 see0 tm0 g0)), (aI k (a 7) 24 fp0), (aI k (a 8) 4 fl0), ((a 9), .inr (5, (fX5 (a 10) (a 11) (a 12) (a 13)))), (aI k (a 10) 10 (vv n1 see1 tm1 g1)), (aI k (a 12) 24 fp1), (aI k (a 13) 4 fl1), ((a 14), .inr (5, (fX5 (a 15) (a 16) (a 17) (a 18)))), (aI k (a 15) 10 (vv n2 see2 tm2 g2)), (aI k (a 17) 24 fp2), (aI k (a 18) 4 fl2), ((a 53), .inr (4, (fX4 (a 54) (a 55) (nI cc) (nI rz) ro sd))), (aI k (a 54) 4 wk), (aI k (a 55) 4 (nF br)), ((a 68), .inr (1, (fX1 (a 53) (a 69) (a 70) (a 71) (nI n2) p1 0 0))), (aI k (a 69) 4 (nF pb__28)), (aI k (a 70) 100 pco__28), (aI k (a 71) 16 pg)]) [0, 1, 2, 3, 4, 5, 6, 7, 8, 9, 14, 15, 16, 17, 18, 19, 20, 11, 12, 13, 10] (by decide +kernel) rfl
            exact W.iret (v := r_34) hx hb hr (fun t ht hW => ⟨⟨r_34, ((nI n2), p1, 0, 0, pb__28, pco__28), rfl, hw_28, by rw [ht]; exact hP9, hD9⟩, hS.F ht⟩) hS.2.2 dX7_parks_83
        · refine lv_if_ne (tgt := 43) hx hb dX7_parks_36 (by decide) (fun h => absurd (by decide) h) (fun _ => ?_)
          refine lv_sipush (v := (-1002)) hx hb dX7_parks_39 (by decide) ?_
          have hP9 := hP.sub (ws' := [((a 0), .inr (7, (fX7 (a 1) (a 3) (a 19) (a 35) (a 40) (nI rk) lfa (a 53) (a 56) (a 63) (a 64) (a 68)))), ((a 3), .inl (k 3, 3, .inr (.inr (.inr (.inr (a3 (a 4) (a 9) (a 14))))))), ((a 4), .inr (5, (fX5 (a 5) (a 6) (a 7) (a 8)))), (aI k (a 5) 10 (vv n0 see0 tm0 g0)), (aI k (a 7) 24 fp0), (aI k (a 8) 4 fl0), ((a 9), .inr (5, (fX5 (a 10) (a 11) (a 12) (a 13)))), (aI k (a 10) 10 (vv n1 see1 tm1 g1)), (aI k (a 12) 24 fp1), (aI k (a 13) 4 fl1), ((a 14), .inr (5, (fX5 (a 15) (a 16) (a 17) (a 18)))), (aI k (a 15) 10 (vv n2 see2 tm2 g2)), (aI k (a 17) 24 fp2), (aI k (a 18) 4 fl2), ((a 53), .inr (4, (fX4 (a 54) (a 55) (nI cc) (nI rz) ro sd))), (aI k (a 54) 4 wk), (aI k (a 55) 4 (nF br)), ((a 68), .inr (1, (fX1 (a 53) (a 69) (a 70) (a 71) pn pf pd pe))), (aI k (a 69) 4 (nF pb)), (aI k (a 70) 100 pco), (aI k (a 71) 16 pg)]) [0, 1, 2, 3, 4, 5, 6, 7, 8, 9, 10, 11, 12, 13, 14, 15, 16, 17, 18, 19, 20] rfl
          have hD9 := hD.sub (ws' := [((a 0), .inr (7, (fX7 (a 1) (a 3) (a 19) (a 35) (a 40) (nI rk) lfa (a 53) (a 56) (a 63) (a 64) (a 68)))), ((a 3), .inl (k 3, 3, .inr (.inr (.inr (.inr (a3 (a 4) (a 9) (a 14))))))), ((a 4), .inr (5, (fX5 (a 5) (a 6) (a 7) (a 8)))), (aI k (a 5) 10 (vv n0 see0 tm0 g0)), (aI k (a 7) 24 fp0), (aI k (a 8) 4 fl0), ((a 9), .inr (5, (fX5 (a 10) (a 11) (a 12) (a 13)))), (aI k (a 10) 10 (vv n1 see1 tm1 g1)), (aI k (a 12) 24 fp1), (aI k (a 13) 4 fl1), ((a 14), .inr (5, (fX5 (a 15) (a 16) (a 17) (a 18)))), (aI k (a 15) 10 (vv n2 see2 tm2 g2)), (aI k (a 17) 24 fp2), (aI k (a 18) 4 fl2), ((a 53), .inr (4, (fX4 (a 54) (a 55) (nI cc) (nI rz) ro sd))), (aI k (a 54) 4 wk), (aI k (a 55) 4 (nF br)), ((a 68), .inr (1, (fX1 (a 53) (a 69) (a 70) (a 71) pn pf pd pe))), (aI k (a 69) 4 (nF pb)), (aI k (a 70) 100 pco), (aI k (a 71) 16 pg)]) [0, 1, 2, 3, 4, 5, 6, 7, 8, 9, 10, 11, 12, 13, 14, 15, 16, 17, 18, 19, 20] (by decide +kernel) rfl
          exact W.iret (v := (-1002)) hx hb hr (fun t ht hW => ⟨⟨(-1002), (pn, pf, pd, pe, pb, pco), rfl, hpb, by rw [ht]; exact hP9, hD9⟩, hS.F ht⟩) hS.2.2 dX7_parks_42
      · refine lv_if_eq (tgt := 39) hx hb dX7_parks_26 (by decide) (fun _ => ?_) (fun h => absurd (by decide) h)
        refine lv_sipush (v := (-1002)) hx hb dX7_parks_39 (by decide) ?_
        have hP9 := hP.sub (ws' := [((a 0), .inr (7, (fX7 (a 1) (a 3) (a 19) (a 35) (a 40) (nI rk) lfa (a 53) (a 56) (a 63) (a 64) (a 68)))), ((a 3), .inl (k 3, 3, .inr (.inr (.inr (.inr (a3 (a 4) (a 9) (a 14))))))), ((a 4), .inr (5, (fX5 (a 5) (a 6) (a 7) (a 8)))), (aI k (a 5) 10 (vv n0 see0 tm0 g0)), (aI k (a 7) 24 fp0), (aI k (a 8) 4 fl0), ((a 9), .inr (5, (fX5 (a 10) (a 11) (a 12) (a 13)))), (aI k (a 10) 10 (vv n1 see1 tm1 g1)), (aI k (a 12) 24 fp1), (aI k (a 13) 4 fl1), ((a 14), .inr (5, (fX5 (a 15) (a 16) (a 17) (a 18)))), (aI k (a 15) 10 (vv n2 see2 tm2 g2)), (aI k (a 17) 24 fp2), (aI k (a 18) 4 fl2), ((a 53), .inr (4, (fX4 (a 54) (a 55) (nI cc) (nI rz) ro sd))), (aI k (a 54) 4 wk), (aI k (a 55) 4 (nF br)), ((a 68), .inr (1, (fX1 (a 53) (a 69) (a 70) (a 71) pn pf pd pe))), (aI k (a 69) 4 (nF pb)), (aI k (a 70) 100 pco), (aI k (a 71) 16 pg)]) [0, 1, 2, 3, 4, 5, 6, 7, 8, 9, 10, 11, 12, 13, 14, 15, 16, 17, 18, 19, 20] rfl
        have hD9 := hD.sub (ws' := [((a 0), .inr (7, (fX7 (a 1) (a 3) (a 19) (a 35) (a 40) (nI rk) lfa (a 53) (a 56) (a 63) (a 64) (a 68)))), ((a 3), .inl (k 3, 3, .inr (.inr (.inr (.inr (a3 (a 4) (a 9) (a 14))))))), ((a 4), .inr (5, (fX5 (a 5) (a 6) (a 7) (a 8)))), (aI k (a 5) 10 (vv n0 see0 tm0 g0)), (aI k (a 7) 24 fp0), (aI k (a 8) 4 fl0), ((a 9), .inr (5, (fX5 (a 10) (a 11) (a 12) (a 13)))), (aI k (a 10) 10 (vv n1 see1 tm1 g1)), (aI k (a 12) 24 fp1), (aI k (a 13) 4 fl1), ((a 14), .inr (5, (fX5 (a 15) (a 16) (a 17) (a 18)))), (aI k (a 15) 10 (vv n2 see2 tm2 g2)), (aI k (a 17) 24 fp2), (aI k (a 18) 4 fl2), ((a 53), .inr (4, (fX4 (a 54) (a 55) (nI cc) (nI rz) ro sd))), (aI k (a 54) 4 wk), (aI k (a 55) 4 (nF br)), ((a 68), .inr (1, (fX1 (a 53) (a 69) (a 70) (a 71) pn pf pd pe))), (aI k (a 69) 4 (nF pb)), (aI k (a 70) 100 pco), (aI k (a 71) 16 pg)]) [0, 1, 2, 3, 4, 5, 6, 7, 8, 9, 10, 11, 12, 13, 14, 15, 16, 17, 18, 19, 20] (by decide +kernel) rfl
        exact W.iret (v := (-1002)) hx hb hr (fun t ht hW => ⟨⟨(-1002), (pn, pf, pd, pe, pb, pco), rfl, hpb, by rw [ht]; exact hP9, hD9⟩, hS.F ht⟩) hS.2.2 dX7_parks_42
    · refine lv_if_ne (tgt := 20) hx hb dX7_parks_13 (by decide) (fun h => absurd (by decide) h) (fun _ => ?_)
      refine lv_sipush (v := (-1001)) hx hb dX7_parks_16 (by decide) ?_
      have hP9 := hP.sub (ws' := [((a 0), .inr (7, (fX7 (a 1) (a 3) (a 19) (a 35) (a 40) (nI rk) lfa (a 53) (a 56) (a 63) (a 64) (a 68)))), ((a 3), .inl (k 3, 3, .inr (.inr (.inr (.inr (a3 (a 4) (a 9) (a 14))))))), ((a 4), .inr (5, (fX5 (a 5) (a 6) (a 7) (a 8)))), (aI k (a 5) 10 (vv n0 see0 tm0 g0)), (aI k (a 7) 24 fp0), (aI k (a 8) 4 fl0), ((a 9), .inr (5, (fX5 (a 10) (a 11) (a 12) (a 13)))), (aI k (a 10) 10 (vv n1 see1 tm1 g1)), (aI k (a 12) 24 fp1), (aI k (a 13) 4 fl1), ((a 14), .inr (5, (fX5 (a 15) (a 16) (a 17) (a 18)))), (aI k (a 15) 10 (vv n2 see2 tm2 g2)), (aI k (a 17) 24 fp2), (aI k (a 18) 4 fl2), ((a 53), .inr (4, (fX4 (a 54) (a 55) (nI cc) (nI rz) ro sd))), (aI k (a 54) 4 wk), (aI k (a 55) 4 (nF br)), ((a 68), .inr (1, (fX1 (a 53) (a 69) (a 70) (a 71) pn pf pd pe))), (aI k (a 69) 4 (nF pb)), (aI k (a 70) 100 pco), (aI k (a 71) 16 pg)]) [0, 1, 2, 3, 4, 5, 6, 7, 8, 9, 10, 11, 12, 13, 14, 15, 16, 17, 18, 19, 20] rfl
      have hD9 := hD.sub (ws' := [((a 0), .inr (7, (fX7 (a 1) (a 3) (a 19) (a 35) (a 40) (nI rk) lfa (a 53) (a 56) (a 63) (a 64) (a 68)))), ((a 3), .inl (k 3, 3, .inr (.inr (.inr (.inr (a3 (a 4) (a 9) (a 14))))))), ((a 4), .inr (5, (fX5 (a 5) (a 6) (a 7) (a 8)))), (aI k (a 5) 10 (vv n0 see0 tm0 g0)), (aI k (a 7) 24 fp0), (aI k (a 8) 4 fl0), ((a 9), .inr (5, (fX5 (a 10) (a 11) (a 12) (a 13)))), (aI k (a 10) 10 (vv n1 see1 tm1 g1)), (aI k (a 12) 24 fp1), (aI k (a 13) 4 fl1), ((a 14), .inr (5, (fX5 (a 15) (a 16) (a 17) (a 18)))), (aI k (a 15) 10 (vv n2 see2 tm2 g2)), (aI k (a 17) 24 fp2), (aI k (a 18) 4 fl2), ((a 53), .inr (4, (fX4 (a 54) (a 55) (nI cc) (nI rz) ro sd))), (aI k (a 54) 4 wk), (aI k (a 55) 4 (nF br)), ((a 68), .inr (1, (fX1 (a 53) (a 69) (a 70) (a 71) pn pf pd pe))), (aI k (a 69) 4 (nF pb)), (aI k (a 70) 100 pco), (aI k (a 71) 16 pg)]) [0, 1, 2, 3, 4, 5, 6, 7, 8, 9, 10, 11, 12, 13, 14, 15, 16, 17, 18, 19, 20] (by decide +kernel) rfl
      exact W.iret (v := (-1001)) hx hb hr (fun t ht hW => ⟨⟨(-1001), (pn, pf, pd, pe, pb, pco), rfl, hpb, by rw [ht]; exact hP9, hD9⟩, hS.F ht⟩) hS.2.2 dX7_parks_19
  · refine lv_if_eq (tgt := 16) hx hb dX7_parks_5 (by decide) (fun _ => ?_) (fun h => absurd (by decide) h)
    refine lv_sipush (v := (-1001)) hx hb dX7_parks_16 (by decide) ?_
    have hP9 := hP.sub (ws' := [((a 0), .inr (7, (fX7 (a 1) (a 3) (a 19) (a 35) (a 40) (nI rk) lfa (a 53) (a 56) (a 63) (a 64) (a 68)))), ((a 3), .inl (k 3, 3, .inr (.inr (.inr (.inr (a3 (a 4) (a 9) (a 14))))))), ((a 4), .inr (5, (fX5 (a 5) (a 6) (a 7) (a 8)))), (aI k (a 5) 10 (vv n0 see0 tm0 g0)), (aI k (a 7) 24 fp0), (aI k (a 8) 4 fl0), ((a 9), .inr (5, (fX5 (a 10) (a 11) (a 12) (a 13)))), (aI k (a 10) 10 (vv n1 see1 tm1 g1)), (aI k (a 12) 24 fp1), (aI k (a 13) 4 fl1), ((a 14), .inr (5, (fX5 (a 15) (a 16) (a 17) (a 18)))), (aI k (a 15) 10 (vv n2 see2 tm2 g2)), (aI k (a 17) 24 fp2), (aI k (a 18) 4 fl2), ((a 53), .inr (4, (fX4 (a 54) (a 55) (nI cc) (nI rz) ro sd))), (aI k (a 54) 4 wk), (aI k (a 55) 4 (nF br)), ((a 68), .inr (1, (fX1 (a 53) (a 69) (a 70) (a 71) pn pf pd pe))), (aI k (a 69) 4 (nF pb)), (aI k (a 70) 100 pco), (aI k (a 71) 16 pg)]) [0, 1, 2, 3, 4, 5, 6, 7, 8, 9, 10, 11, 12, 13, 14, 15, 16, 17, 18, 19, 20] rfl
    have hD9 := hD.sub (ws' := [((a 0), .inr (7, (fX7 (a 1) (a 3) (a 19) (a 35) (a 40) (nI rk) lfa (a 53) (a 56) (a 63) (a 64) (a 68)))), ((a 3), .inl (k 3, 3, .inr (.inr (.inr (.inr (a3 (a 4) (a 9) (a 14))))))), ((a 4), .inr (5, (fX5 (a 5) (a 6) (a 7) (a 8)))), (aI k (a 5) 10 (vv n0 see0 tm0 g0)), (aI k (a 7) 24 fp0), (aI k (a 8) 4 fl0), ((a 9), .inr (5, (fX5 (a 10) (a 11) (a 12) (a 13)))), (aI k (a 10) 10 (vv n1 see1 tm1 g1)), (aI k (a 12) 24 fp1), (aI k (a 13) 4 fl1), ((a 14), .inr (5, (fX5 (a 15) (a 16) (a 17) (a 18)))), (aI k (a 15) 10 (vv n2 see2 tm2 g2)), (aI k (a 17) 24 fp2), (aI k (a 18) 4 fl2), ((a 53), .inr (4, (fX4 (a 54) (a 55) (nI cc) (nI rz) ro sd))), (aI k (a 54) 4 wk), (aI k (a 55) 4 (nF br)), ((a 68), .inr (1, (fX1 (a 53) (a 69) (a 70) (a 71) pn pf pd pe))), (aI k (a 69) 4 (nF pb)), (aI k (a 70) 100 pco), (aI k (a 71) 16 pg)]) [0, 1, 2, 3, 4, 5, 6, 7, 8, 9, 10, 11, 12, 13, 14, 15, 16, 17, 18, 19, 20] (by decide +kernel) rfl
    exact W.iret (v := (-1001)) hx hb hr (fun t ht hW => ⟨⟨(-1001), (pn, pf, pd, pe, pb, pco), rfl, hpb, by rw [ht]; exact hP9, hD9⟩, hS.F ht⟩) hS.2.2 dX7_parks_19


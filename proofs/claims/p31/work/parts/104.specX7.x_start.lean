theorem f_x_start_rows : True := trivial
theorem dX7_start_0 : decode cX7_start 0 = .ok (.aload_n 0, 1) := by decide +kernel
theorem dX7_start_1 : decode cX7_start 1 = .ok (.iload_n 1, 1) := by decide +kernel
theorem dX7_start_2 : decode cX7_start 2 = .ok (.invokevirtual 108, 3) := by decide +kernel
theorem dX7_start_5 : decode cX7_start 5 = .ok (.ifCond .ne 7, 3) := by decide +kernel
theorem dX7_start_8 : decode cX7_start 8 = .ok (.sipush (-1001), 3) := by decide +kernel
theorem dX7_start_11 : decode cX7_start 11 = .ok (.ireturn, 1) := by decide +kernel
theorem dX7_start_12 : decode cX7_start 12 = .ok (.aload_n 0, 1) := by decide +kernel
theorem dX7_start_13 : decode cX7_start 13 = .ok (.iload_n 1, 1) := by decide +kernel
theorem dX7_start_14 : decode cX7_start 14 = .ok (.iload_n 2, 1) := by decide +kernel
theorem dX7_start_15 : decode cX7_start 15 = .ok (.invokevirtual 134, 3) := by decide +kernel
theorem dX7_start_18 : decode cX7_start 18 = .ok (.ifCond .eq 17, 3) := by decide +kernel
theorem dX7_start_21 : decode cX7_start 21 = .ok (.aload_n 0, 1) := by decide +kernel
theorem dX7_start_22 : decode cX7_start 22 = .ok (.getfield 24, 3) := by decide +kernel
theorem dX7_start_25 : decode cX7_start 25 = .ok (.iload_n 1, 1) := by decide +kernel
theorem dX7_start_26 : decode cX7_start 26 = .ok (.aaload, 1) := by decide +kernel
theorem dX7_start_27 : decode cX7_start 27 = .ok (.getfield 155, 3) := by decide +kernel
theorem dX7_start_30 : decode cX7_start 30 = .ok (.iload_n 2, 1) := by decide +kernel
theorem dX7_start_31 : decode cX7_start 31 = .ok (.iaload, 1) := by decide +kernel
theorem dX7_start_32 : decode cX7_start 32 = .ok (.goto 6, 3) := by decide +kernel
theorem dX7_start_35 : decode cX7_start 35 = .ok (.sipush (-1002), 3) := by decide +kernel
theorem dX7_start_38 : decode cX7_start 38 = .ok (.ireturn, 1) := by decide +kernel
theorem f_x_end_rows : True := trivial
theorem dX7_end_0 : decode cX7_end 0 = .ok (.aload_n 0, 1) := by decide +kernel
theorem dX7_end_1 : decode cX7_end 1 = .ok (.iload_n 1, 1) := by decide +kernel
theorem dX7_end_2 : decode cX7_end 2 = .ok (.invokevirtual 108, 3) := by decide +kernel
theorem dX7_end_5 : decode cX7_end 5 = .ok (.ifCond .ne 7, 3) := by decide +kernel
theorem dX7_end_8 : decode cX7_end 8 = .ok (.sipush (-1001), 3) := by decide +kernel
theorem dX7_end_11 : decode cX7_end 11 = .ok (.ireturn, 1) := by decide +kernel
theorem dX7_end_12 : decode cX7_end 12 = .ok (.aload_n 0, 1) := by decide +kernel
theorem dX7_end_13 : decode cX7_end 13 = .ok (.iload_n 1, 1) := by decide +kernel
theorem dX7_end_14 : decode cX7_end 14 = .ok (.iload_n 2, 1) := by decide +kernel
theorem dX7_end_15 : decode cX7_end 15 = .ok (.invokevirtual 134, 3) := by decide +kernel
theorem dX7_end_18 : decode cX7_end 18 = .ok (.ifCond .eq 12, 3) := by decide +kernel
theorem dX7_end_21 : decode cX7_end 21 = .ok (.iload_n 3, 1) := by decide +kernel
theorem dX7_end_22 : decode cX7_end 22 = .ok (.iconst 0, 1) := by decide +kernel
theorem dX7_end_23 : decode cX7_end 23 = .ok (.iconst 1, 1) := by decide +kernel
theorem dX7_end_24 : decode cX7_end 24 = .ok (.invokestatic 112, 3) := by decide +kernel
theorem dX7_end_27 : decode cX7_end 27 = .ok (.ifCond .ne 7, 3) := by decide +kernel
theorem dX7_end_30 : decode cX7_end 30 = .ok (.sipush (-1002), 3) := by decide +kernel
theorem dX7_end_33 : decode cX7_end 33 = .ok (.ireturn, 1) := by decide +kernel
theorem dX7_end_34 : decode cX7_end 34 = .ok (.iload_n 3, 1) := by decide +kernel
theorem dX7_end_35 : decode cX7_end 35 = .ok (.ifCond .ne 15, 3) := by decide +kernel
theorem dX7_end_38 : decode cX7_end 38 = .ok (.aload_n 0, 1) := by decide +kernel
theorem dX7_end_39 : decode cX7_end 39 = .ok (.getfield 24, 3) := by decide +kernel
theorem dX7_end_42 : decode cX7_end 42 = .ok (.iload_n 1, 1) := by decide +kernel
theorem dX7_end_43 : decode cX7_end 43 = .ok (.aaload, 1) := by decide +kernel
theorem dX7_end_44 : decode cX7_end 44 = .ok (.getfield 158, 3) := by decide +kernel
theorem dX7_end_47 : decode cX7_end 47 = .ok (.iload_n 2, 1) := by decide +kernel
theorem dX7_end_48 : decode cX7_end 48 = .ok (.iaload, 1) := by decide +kernel
theorem dX7_end_49 : decode cX7_end 49 = .ok (.ireturn, 1) := by decide +kernel
theorem dX7_end_50 : decode cX7_end 50 = .ok (.aload_n 0, 1) := by decide +kernel
theorem dX7_end_51 : decode cX7_end 51 = .ok (.getfield 24, 3) := by decide +kernel
theorem dX7_end_54 : decode cX7_end 54 = .ok (.iload_n 1, 1) := by decide +kernel
theorem dX7_end_55 : decode cX7_end 55 = .ok (.aaload, 1) := by decide +kernel
theorem dX7_end_56 : decode cX7_end 56 = .ok (.getfield 158, 3) := by decide +kernel
theorem dX7_end_59 : decode cX7_end 59 = .ok (.iload_n 2, 1) := by decide +kernel
theorem dX7_end_60 : decode cX7_end 60 = .ok (.iaload, 1) := by decide +kernel
theorem dX7_end_61 : decode cX7_end 61 = .ok (.aload_n 0, 1) := by decide +kernel
theorem dX7_end_62 : decode cX7_end 62 = .ok (.getfield 18, 3) := by decide +kernel
theorem dX7_end_65 : decode cX7_end 65 = .ok (.iload_n 1, 1) := by decide +kernel
theorem dX7_end_66 : decode cX7_end 66 = .ok (.aaload, 1) := by decide +kernel
theorem dX7_end_67 : decode cX7_end 67 = .ok (.iload_n 2, 1) := by decide +kernel
theorem dX7_end_68 : decode cX7_end 68 = .ok (.invokevirtual 161, 3) := by decide +kernel
theorem dX7_end_71 : decode cX7_end 71 = .ok (.if_icmp .ge 7, 3) := by decide +kernel
theorem dX7_end_74 : decode cX7_end 74 = .ok (.iconst 1, 1) := by decide +kernel
theorem dX7_end_75 : decode cX7_end 75 = .ok (.goto 4, 3) := by decide +kernel
theorem dX7_end_78 : decode cX7_end 78 = .ok (.iconst 0, 1) := by decide +kernel
theorem dX7_end_79 : decode cX7_end 79 = .ok (.ireturn, 1) := by decide +kernel
theorem f_x_bar_rows : True := trivial
theorem dX7_bar_0 : decode cX7_bar 0 = .ok (.aload_n 0, 1) := by decide +kernel
theorem dX7_bar_1 : decode cX7_bar 1 = .ok (.iload_n 1, 1) := by decide +kernel
theorem dX7_bar_2 : decode cX7_bar 2 = .ok (.invokevirtual 108, 3) := by decide +kernel
theorem dX7_bar_5 : decode cX7_bar 5 = .ok (.ifCond .ne 7, 3) := by decide +kernel
theorem dX7_bar_8 : decode cX7_bar 8 = .ok (.sipush (-1001), 3) := by decide +kernel
theorem dX7_bar_11 : decode cX7_bar 11 = .ok (.ireturn, 1) := by decide +kernel
theorem dX7_bar_12 : decode cX7_bar 12 = .ok (.aload_n 0, 1) := by decide +kernel
theorem dX7_bar_13 : decode cX7_bar 13 = .ok (.iload_n 1, 1) := by decide +kernel
theorem dX7_bar_14 : decode cX7_bar 14 = .ok (.iload_n 2, 1) := by decide +kernel
theorem dX7_bar_15 : decode cX7_bar 15 = .ok (.invokevirtual 134, 3) := by decide +kernel
theorem dX7_bar_18 : decode cX7_bar 18 = .ok (.ifCond .eq 16, 3) := by decide +kernel
theorem dX7_bar_21 : decode cX7_bar 21 = .ok (.aload_n 0, 1) := by decide +kernel
theorem dX7_bar_22 : decode cX7_bar 22 = .ok (.getfield 24, 3) := by decide +kernel
theorem dX7_bar_25 : decode cX7_bar 25 = .ok (.iload_n 1, 1) := by decide +kernel
theorem dX7_bar_26 : decode cX7_bar 26 = .ok (.aaload, 1) := by decide +kernel
theorem dX7_bar_27 : decode cX7_bar 27 = .ok (.iload_n 2, 1) := by decide +kernel
theorem dX7_bar_28 : decode cX7_bar 28 = .ok (.invokevirtual 165, 3) := by decide +kernel
theorem dX7_bar_31 : decode cX7_bar 31 = .ok (.goto 6, 3) := by decide +kernel
theorem dX7_bar_34 : decode cX7_bar 34 = .ok (.sipush (-1002), 3) := by decide +kernel
theorem dX7_bar_37 : decode cX7_bar 37 = .ok (.ireturn, 1) := by decide +kernel
theorem f_x_which_rows : True := trivial
theorem dX7_which_0 : decode cX7_which 0 = .ok (.aload_n 0, 1) := by decide +kernel
theorem dX7_which_1 : decode cX7_which 1 = .ok (.iload_n 1, 1) := by decide +kernel
theorem dX7_which_2 : decode cX7_which 2 = .ok (.invokevirtual 108, 3) := by decide +kernel
theorem dX7_which_5 : decode cX7_which 5 = .ok (.ifCond .eq 11, 3) := by decide +kernel
theorem dX7_which_8 : decode cX7_which 8 = .ok (.aload_n 0, 1) := by decide +kernel
theorem dX7_which_9 : decode cX7_which 9 = .ok (.iload_n 2, 1) := by decide +kernel
theorem dX7_which_10 : decode cX7_which 10 = .ok (.invokevirtual 108, 3) := by decide +kernel
theorem dX7_which_13 : decode cX7_which 13 = .ok (.ifCond .ne 7, 3) := by decide +kernel
theorem dX7_which_16 : decode cX7_which 16 = .ok (.sipush (-1001), 3) := by decide +kernel
theorem dX7_which_19 : decode cX7_which 19 = .ok (.ireturn, 1) := by decide +kernel
theorem dX7_which_20 : decode cX7_which 20 = .ok (.aload_n 0, 1) := by decide +kernel
theorem dX7_which_21 : decode cX7_which 21 = .ok (.getfield 24, 3) := by decide +kernel
theorem dX7_which_24 : decode cX7_which 24 = .ok (.iload_n 2, 1) := by decide +kernel
theorem dX7_which_25 : decode cX7_which 25 = .ok (.aaload, 1) := by decide +kernel
theorem dX7_which_26 : decode cX7_which 26 = .ok (.getfield 155, 3) := by decide +kernel
theorem dX7_which_29 : decode cX7_which 29 = .ok (.iconst 0, 1) := by decide +kernel
theorem dX7_which_30 : decode cX7_which 30 = .ok (.iaload, 1) := by decide +kernel
theorem dX7_which_31 : decode cX7_which 31 = .ok (.aload_n 0, 1) := by decide +kernel
theorem dX7_which_32 : decode cX7_which 32 = .ok (.getfield 24, 3) := by decide +kernel
theorem dX7_which_35 : decode cX7_which 35 = .ok (.iload_n 1, 1) := by decide +kernel
theorem dX7_which_36 : decode cX7_which 36 = .ok (.aaload, 1) := by decide +kernel
theorem dX7_which_37 : decode cX7_which 37 = .ok (.getfield 155, 3) := by decide +kernel
theorem dX7_which_40 : decode cX7_which 40 = .ok (.iconst 0, 1) := by decide +kernel
theorem dX7_which_41 : decode cX7_which 41 = .ok (.iaload, 1) := by decide +kernel
theorem dX7_which_42 : decode cX7_which 42 = .ok (.if_icmp .ge 7, 3) := by decide +kernel
theorem dX7_which_45 : decode cX7_which 45 = .ok (.iload_n 2, 1) := by decide +kernel
theorem dX7_which_46 : decode cX7_which 46 = .ok (.goto 4, 3) := by decide +kernel
theorem dX7_which_49 : decode cX7_which 49 = .ok (.iload_n 1, 1) := by decide +kernel
theorem dX7_which_50 : decode cX7_which 50 = .ok (.ireturn, 1) := by decide +kernel
theorem f_x_judge_rows : True := trivial
theorem dX7_judge_0 : decode cX7_judge 0 = .ok (.aload_n 0, 1) := by decide +kernel
theorem dX7_judge_1 : decode cX7_judge 1 = .ok (.iload_n 1, 1) := by decide +kernel
theorem dX7_judge_2 : decode cX7_judge 2 = .ok (.invokevirtual 108, 3) := by decide +kernel
theorem dX7_judge_5 : decode cX7_judge 5 = .ok (.ifCond .ne 7, 3) := by decide +kernel
theorem dX7_judge_8 : decode cX7_judge 8 = .ok (.sipush (-1001), 3) := by decide +kernel
theorem dX7_judge_11 : decode cX7_judge 11 = .ok (.ireturn, 1) := by decide +kernel
theorem dX7_judge_12 : decode cX7_judge 12 = .ok (.aload_n 0, 1) := by decide +kernel
theorem dX7_judge_13 : decode cX7_judge 13 = .ok (.iload_n 1, 1) := by decide +kernel
theorem dX7_judge_14 : decode cX7_judge 14 = .ok (.iload_n 2, 1) := by decide +kernel
theorem dX7_judge_15 : decode cX7_judge 15 = .ok (.invokevirtual 134, 3) := by decide +kernel
theorem dX7_judge_18 : decode cX7_judge 18 = .ok (.ifCond .ne 7, 3) := by decide +kernel
theorem dX7_judge_21 : decode cX7_judge 21 = .ok (.sipush (-1002), 3) := by decide +kernel
theorem dX7_judge_24 : decode cX7_judge 24 = .ok (.ireturn, 1) := by decide +kernel
theorem dX7_judge_25 : decode cX7_judge 25 = .ok (.aload_n 0, 1) := by decide +kernel
theorem dX7_judge_26 : decode cX7_judge 26 = .ok (.getfield 49, 3) := by decide +kernel
theorem dX7_judge_29 : decode cX7_judge 29 = .ok (.getfield 176, 3) := by decide +kernel
theorem dX7_judge_32 : decode cX7_judge 32 = .ok (.iconst 1, 1) := by decide +kernel
theorem dX7_judge_33 : decode cX7_judge 33 = .ok (.isub, 1) := by decide +kernel
theorem dX7_judge_34 : decode cX7_judge 34 = .ok (.istore 4, 2) := by decide +kernel
theorem dX7_judge_36 : decode cX7_judge 36 = .ok (.iload 4, 2) := by decide +kernel
theorem dX7_judge_38 : decode cX7_judge 38 = .ok (.ifCond .lt 33, 3) := by decide +kernel
theorem dX7_judge_41 : decode cX7_judge 41 = .ok (.iload 4, 2) := by decide +kernel
theorem dX7_judge_43 : decode cX7_judge 43 = .ok (.aload_n 0, 1) := by decide +kernel
theorem dX7_judge_44 : decode cX7_judge 44 = .ok (.getfield 18, 3) := by decide +kernel
theorem dX7_judge_47 : decode cX7_judge 47 = .ok (.iload_n 1, 1) := by decide +kernel
theorem dX7_judge_48 : decode cX7_judge 48 = .ok (.aaload, 1) := by decide +kernel
theorem dX7_judge_49 : decode cX7_judge 49 = .ok (.invokevirtual 105, 3) := by decide +kernel
theorem dX7_judge_52 : decode cX7_judge 52 = .ok (.if_icmp .ge 19, 3) := by decide +kernel
theorem dX7_judge_55 : decode cX7_judge 55 = .ok (.iload_n 3, 1) := by decide +kernel
theorem dX7_judge_56 : decode cX7_judge 56 = .ok (.ifCond .eq 19, 3) := by decide +kernel
theorem dX7_judge_59 : decode cX7_judge 59 = .ok (.aload_n 0, 1) := by decide +kernel
theorem dX7_judge_60 : decode cX7_judge 60 = .ok (.getfield 49, 3) := by decide +kernel
theorem dX7_judge_63 : decode cX7_judge 63 = .ok (.iload 4, 2) := by decide +kernel
theorem dX7_judge_65 : decode cX7_judge 65 = .ok (.invokevirtual 186, 3) := by decide +kernel
theorem dX7_judge_68 : decode cX7_judge 68 = .ok (.ifCond .ne 7, 3) := by decide +kernel
theorem dX7_judge_71 : decode cX7_judge 71 = .ok (.sipush (-1003), 3) := by decide +kernel
theorem dX7_judge_74 : decode cX7_judge 74 = .ok (.ireturn, 1) := by decide +kernel
theorem dX7_judge_75 : decode cX7_judge 75 = .ok (.aload_n 0, 1) := by decide +kernel
theorem dX7_judge_76 : decode cX7_judge 76 = .ok (.getfield 24, 3) := by decide +kernel
theorem dX7_judge_79 : decode cX7_judge 79 = .ok (.iload_n 1, 1) := by decide +kernel
theorem dX7_judge_80 : decode cX7_judge 80 = .ok (.aaload, 1) := by decide +kernel
theorem dX7_judge_81 : decode cX7_judge 81 = .ok (.iload_n 2, 1) := by decide +kernel
theorem dX7_judge_82 : decode cX7_judge 82 = .ok (.aload_n 0, 1) := by decide +kernel
theorem dX7_judge_83 : decode cX7_judge 83 = .ok (.getfield 49, 3) := by decide +kernel
theorem dX7_judge_86 : decode cX7_judge 86 = .ok (.iload_n 3, 1) := by decide +kernel
theorem dX7_judge_87 : decode cX7_judge 87 = .ok (.invokevirtual 189, 3) := by decide +kernel
theorem dX7_judge_90 : decode cX7_judge 90 = .ok (.ireturn, 1) := by decide +kernel
theorem f_x_thought_rows : True := trivial
theorem dX7_thought_0 : decode cX7_thought 0 = .ok (.aload_n 0, 1) := by decide +kernel
theorem dX7_thought_1 : decode cX7_thought 1 = .ok (.iload_n 1, 1) := by decide +kernel
theorem dX7_thought_2 : decode cX7_thought 2 = .ok (.invokevirtual 108, 3) := by decide +kernel
theorem dX7_thought_5 : decode cX7_thought 5 = .ok (.ifCond .eq 11, 3) := by decide +kernel
theorem dX7_thought_8 : decode cX7_thought 8 = .ok (.aload_n 0, 1) := by decide +kernel
theorem dX7_thought_9 : decode cX7_thought 9 = .ok (.iload_n 2, 1) := by decide +kernel
theorem dX7_thought_10 : decode cX7_thought 10 = .ok (.invokevirtual 108, 3) := by decide +kernel
theorem dX7_thought_13 : decode cX7_thought 13 = .ok (.ifCond .ne 7, 3) := by decide +kernel
theorem dX7_thought_16 : decode cX7_thought 16 = .ok (.sipush (-1001), 3) := by decide +kernel
theorem dX7_thought_19 : decode cX7_thought 19 = .ok (.ireturn, 1) := by decide +kernel
theorem dX7_thought_20 : decode cX7_thought 20 = .ok (.aload_n 0, 1) := by decide +kernel
theorem dX7_thought_21 : decode cX7_thought 21 = .ok (.getfield 64, 3) := by decide +kernel
theorem dX7_thought_24 : decode cX7_thought 24 = .ok (.aload_n 0, 1) := by decide +kernel
theorem dX7_thought_25 : decode cX7_thought 25 = .ok (.getfield 18, 3) := by decide +kernel
theorem dX7_thought_28 : decode cX7_thought 28 = .ok (.iload_n 1, 1) := by decide +kernel
theorem dX7_thought_29 : decode cX7_thought 29 = .ok (.aaload, 1) := by decide +kernel
theorem dX7_thought_30 : decode cX7_thought 30 = .ok (.aload_n 0, 1) := by decide +kernel
theorem dX7_thought_31 : decode cX7_thought 31 = .ok (.getfield 18, 3) := by decide +kernel
theorem dX7_thought_34 : decode cX7_thought 34 = .ok (.iload_n 2, 1) := by decide +kernel
theorem dX7_thought_35 : decode cX7_thought 35 = .ok (.aaload, 1) := by decide +kernel
theorem dX7_thought_36 : decode cX7_thought 36 = .ok (.aload_n 0, 1) := by decide +kernel
theorem dX7_thought_37 : decode cX7_thought 37 = .ok (.getfield 49, 3) := by decide +kernel
theorem dX7_thought_40 : decode cX7_thought 40 = .ok (.invokevirtual 193, 3) := by decide +kernel
theorem dX7_thought_43 : decode cX7_thought 43 = .ok (.ireturn, 1) := by decide +kernel
theorem f_x_count_rows : True := trivial
theorem dX7_count_0 : decode cX7_count 0 = .ok (.iload_n 1, 1) := by decide +kernel
theorem dX7_count_1 : decode cX7_count 1 = .ok (.tableswitch 75 0 4 #[35, 40, 48, 59, 67], 35) := by decide +kernel
theorem dX7_count_36 : decode cX7_count 36 = .ok (.aload_n 0, 1) := by decide +kernel
theorem dX7_count_37 : decode cX7_count 37 = .ok (.getfield 39, 3) := by decide +kernel
theorem dX7_count_40 : decode cX7_count 40 = .ok (.ireturn, 1) := by decide +kernel
theorem dX7_count_41 : decode cX7_count 41 = .ok (.aload_n 0, 1) := by decide +kernel
theorem dX7_count_42 : decode cX7_count 42 = .ok (.getfield 49, 3) := by decide +kernel
theorem dX7_count_45 : decode cX7_count 45 = .ok (.getfield 176, 3) := by decide +kernel
theorem dX7_count_48 : decode cX7_count 48 = .ok (.ireturn, 1) := by decide +kernel
theorem dX7_count_49 : decode cX7_count 49 = .ok (.aload_n 0, 1) := by decide +kernel
theorem dX7_count_50 : decode cX7_count 50 = .ok (.getfield 49, 3) := by decide +kernel
theorem dX7_count_53 : decode cX7_count 53 = .ok (.getfield 183, 3) := by decide +kernel
theorem dX7_count_56 : decode cX7_count 56 = .ok (.invokestatic 275, 3) := by decide +kernel
theorem dX7_count_59 : decode cX7_count 59 = .ok (.ireturn, 1) := by decide +kernel
theorem dX7_count_60 : decode cX7_count 60 = .ok (.aload_n 0, 1) := by decide +kernel
theorem dX7_count_61 : decode cX7_count 61 = .ok (.getfield 49, 3) := by decide +kernel
theorem dX7_count_64 : decode cX7_count 64 = .ok (.getfield 214, 3) := by decide +kernel
theorem dX7_count_67 : decode cX7_count 67 = .ok (.ireturn, 1) := by decide +kernel
theorem dX7_count_68 : decode cX7_count 68 = .ok (.aload_n 0, 1) := by decide +kernel
theorem dX7_count_69 : decode cX7_count 69 = .ok (.getfield 12, 3) := by decide +kernel
theorem dX7_count_72 : decode cX7_count 72 = .ok (.getfield 81, 3) := by decide +kernel
theorem dX7_count_75 : decode cX7_count 75 = .ok (.ireturn, 1) := by decide +kernel
theorem dX7_count_76 : decode cX7_count 76 = .ok (.sipush (-1002), 3) := by decide +kernel
theorem dX7_count_79 : decode cX7_count 79 = .ok (.ireturn, 1) := by decide +kernel
theorem tw_2 : Cond.selects RX7 yX7_closeText yX7_closeText ∈ LW := LWm (i := 2) (by decide +kernel) rfl
theorem tw_15 : Cond.selects RX7 yX7_isRule yX7_isRule ∈ LW := LWm (i := 15) (by decide +kernel) rfl
theorem tw_17 : Cond.selects RX7 yX7_isCar yX7_isCar ∈ LW := LWm (i := 17) (by decide +kernel) rfl
theorem tw_21 : Cond.selects RX7 yX7_refuseSet yX7_refuseSet ∈ LW := LWm (i := 21) (by decide +kernel) rfl
theorem tw_177 : Cond.fieldLink RX7 223 "LastPlace$Scene" "bars" "[I" ∈ LW := LWm1 (i := 99) (by decide +kernel) rfl
theorem tw_189 : Cond.fieldLink RX7 266 "LastPlace$Scene" "seedNow" "I" ∈ LW := LWm1 (i := 111) (by decide +kernel) rfl
theorem tw_214 : Cond.fieldLink RX7 201 "LastPlace$Reckoner" "waitTicks" "I" ∈ LW := LWm1 (i := 136) (by decide +kernel) rfl
theorem tw_216 : Cond.fieldLink RX7 204 "LastPlace$Reckoner" "waitCost" "I" ∈ LW := LWm1 (i := 138) (by decide +kernel) rfl
theorem tw_237 : Cond.fieldLink RX7 249 "LastPlace$Parking" "bars" "[I" ∈ LW := LWm1 (i := 159) (by decide +kernel) rfl
theorem tw_308 : Cond.fieldLink RX7 29 "LastPlace" "draft" "LLastPlace$Street;" ∈ LW := LWm1 (i := 230) (by decide +kernel) rfl
theorem tw_309 : Cond.fieldLink RX7 35 "LastPlace" "rules" "[LLastPlace$Rule;" ∈ LW := LWm1 (i := 231) (by decide +kernel) rfl
theorem tw_313 : Cond.fieldLink RX7 53 "LastPlace" "images" "[LLastPlace$Scene;" ∈ LW := LWm1 (i := 235) (by decide +kernel) rfl
theorem tw_314 : Cond.fieldLink RX7 57 "LastPlace" "kept" "[Z" ∈ LW := LWm1 (i := 236) (by decide +kernel) rfl
theorem tw_316 : Cond.fieldLink RX7 73 "LastPlace" "parking" "LLastPlace$Parking;" ∈ LW := LWm1 (i := 238) (by decide +kernel) rfl
theorem tw_346 : Cond.methodLink RX7 84 yX6_append ∈ LW := LWm2 (i := 28) (by decide +kernel) rfl
theorem tw_347 : Cond.instanceMethod yX6_append ∈ LW := LWm2 (i := 29) (by decide +kernel) rfl
theorem tw_348 : Cond.selects RX6 yX6_append yX6_append ∈ LW := LWm2 (i := 30) (by decide +kernel) rfl
set_option maxRecDepth 100000 in theorem tw_349 : Cond.code yX6_append cX6_append 2 none ∈ LW := LWm2 (i := 31) rfl rfl
theorem tw_354 : Cond.methodLink RX7 88 yX6_rewind ∈ LW := LWm2 (i := 36) (by decide +kernel) rfl
theorem tw_355 : Cond.instanceMethod yX6_rewind ∈ LW := LWm2 (i := 37) (by decide +kernel) rfl
theorem tw_356 : Cond.selects RX6 yX6_rewind yX6_rewind ∈ LW := LWm2 (i := 38) (by decide +kernel) rfl
set_option maxRecDepth 100000 in theorem tw_357 : Cond.code yX6_rewind cX6_rewind 1 none ∈ LW := LWm2 (i := 39) rfl rfl
theorem tw_358 : Cond.methodLink RX7 91 yX5_readFrom ∈ LW := LWm2 (i := 40) (by decide +kernel) rfl
theorem tw_359 : Cond.instanceMethod yX5_readFrom ∈ LW := LWm2 (i := 41) (by decide +kernel) rfl
theorem tw_360 : Cond.selects RX5 yX5_readFrom yX5_readFrom ∈ LW := LWm2 (i := 42) (by decide +kernel) rfl
set_option maxRecDepth 100000 in theorem tw_361 : Cond.code yX5_readFrom cX5_readFrom 6 none ∈ LW := LWm2 (i := 43) rfl rfl
theorem tw_496 : Cond.methodLink RX7 95 yX7_closeText ∈ LW := LWm2 (i := 178) (by decide +kernel) rfl
theorem tw_498 : Cond.instanceMethod yX7_closeText ∈ LW := LWm2 (i := 180) (by decide +kernel) rfl
set_option maxRecDepth 100000 in theorem tw_499 : Cond.code yX7_closeText cX7_closeText 1 (some .int) ∈ LW := LWm2 (i := 181) rfl rfl
theorem tw_501 : Cond.methodLink RX7 99 yX5_become ∈ LW := LWm2 (i := 183) (by decide +kernel) rfl
theorem tw_502 : Cond.instanceMethod yX5_become ∈ LW := LWm2 (i := 184) (by decide +kernel) rfl
theorem tw_503 : Cond.selects RX5 yX5_become yX5_become ∈ LW := LWm2 (i := 185) (by decide +kernel) rfl
set_option maxRecDepth 100000 in theorem tw_504 : Cond.code yX5_become cX5_become 3 none ∈ LW := LWm2 (i := 186) rfl rfl
theorem tw_512 : Cond.methodLink RX7 102 yX0_reckon ∈ LW := LWm2 (i := 194) (by decide +kernel) rfl
theorem tw_513 : Cond.instanceMethod yX0_reckon ∈ LW := LWm2 (i := 195) (by decide +kernel) rfl
theorem tw_514 : Cond.selects RX0 yX0_reckon yX0_reckon ∈ LW := LWm2 (i := 196) (by decide +kernel) rfl
set_option maxRecDepth 100000 in theorem tw_515 : Cond.code yX0_reckon cX0_reckon 3 none ∈ LW := LWm2 (i := 197) rfl rfl
theorem tw_675 : Cond.methodLink RX7 168 yX3_readFrom ∈ LW := LWm3 (i := 117) (by decide +kernel) rfl
theorem tw_676 : Cond.instanceMethod yX3_readFrom ∈ LW := LWm3 (i := 118) (by decide +kernel) rfl
theorem tw_677 : Cond.selects RX3 yX3_readFrom yX3_readFrom ∈ LW := LWm3 (i := 119) (by decide +kernel) rfl
set_option maxRecDepth 100000 in theorem tw_678 : Cond.code yX3_readFrom cX3_readFrom 3 none ∈ LW := LWm3 (i := 120) rfl rfl
theorem tw_697 : Cond.methodLink RX7 169 yX7_isRule ∈ LW := LWm3 (i := 139) (by decide +kernel) rfl
theorem tw_699 : Cond.instanceMethod yX7_isRule ∈ LW := LWm3 (i := 141) (by decide +kernel) rfl
set_option maxRecDepth 100000 in theorem tw_700 : Cond.code yX7_isRule cX7_isRule 2 (some .boolean) ∈ LW := LWm3 (i := 142) rfl rfl
theorem tw_701 : Cond.methodLink RX7 172 yX2_meanOf ∈ LW := LWm3 (i := 143) (by decide +kernel) rfl
theorem tw_702 : Cond.instanceMethod yX2_meanOf ∈ LW := LWm3 (i := 144) (by decide +kernel) rfl
theorem tw_703 : Cond.selects RX2 yX2_meanOf yX2_meanOf ∈ LW := LWm3 (i := 145) (by decide +kernel) rfl
set_option maxRecDepth 100000 in theorem tw_704 : Cond.code yX2_meanOf cX2_meanOf 7 (some .int) ∈ LW := LWm3 (i := 146) rfl rfl
theorem tw_740 : Cond.methodLink RX7 179 yX4_see ∈ LW := LWm3 (i := 182) (by decide +kernel) rfl
theorem tw_741 : Cond.instanceMethod yX4_see ∈ LW := LWm3 (i := 183) (by decide +kernel) rfl
theorem tw_742 : Cond.selects RX4 yX4_see yX4_see ∈ LW := LWm3 (i := 184) (by decide +kernel) rfl
set_option maxRecDepth 100000 in theorem tw_743 : Cond.code yX4_see cX4_see 2 (some .int) ∈ LW := LWm3 (i := 185) rfl rfl
theorem tw_784 : Cond.methodLink RX7 197 yX2_reckonWait ∈ LW := LWm3 (i := 226) (by decide +kernel) rfl
theorem tw_785 : Cond.instanceMethod yX2_reckonWait ∈ LW := LWm3 (i := 227) (by decide +kernel) rfl
theorem tw_786 : Cond.selects RX2 yX2_reckonWait yX2_reckonWait ∈ LW := LWm3 (i := 228) (by decide +kernel) rfl
set_option maxRecDepth 100000 in theorem tw_787 : Cond.code yX2_reckonWait cX2_reckonWait 7 none ∈ LW := LWm3 (i := 229) rfl rfl
theorem tw_792 : Cond.methodLink RX7 207 yX2_boyOf ∈ LW := LWm3 (i := 234) (by decide +kernel) rfl
theorem tw_793 : Cond.instanceMethod yX2_boyOf ∈ LW := LWm3 (i := 235) (by decide +kernel) rfl
theorem tw_794 : Cond.selects RX2 yX2_boyOf yX2_boyOf ∈ LW := LWm3 (i := 236) (by decide +kernel) rfl
set_option maxRecDepth 100000 in theorem tw_795 : Cond.code yX2_boyOf cX2_boyOf 8 (some .int) ∈ LW := LWm3 (i := 237) rfl rfl
theorem tw_800 : Cond.fieldLink RX7 211 "LastPlace" "MOST" "[I" ∈ LW := LWm4 (i := 2) (by decide +kernel) rfl
theorem tw_801 : Cond.methodLink RX7 217 yX4_addCar ∈ LW := LWm4 (i := 3) (by decide +kernel) rfl
theorem tw_802 : Cond.instanceMethod yX4_addCar ∈ LW := LWm4 (i := 4) (by decide +kernel) rfl
theorem tw_803 : Cond.selects RX4 yX4_addCar yX4_addCar ∈ LW := LWm4 (i := 5) (by decide +kernel) rfl
set_option maxRecDepth 100000 in theorem tw_804 : Cond.code yX4_addCar cX4_addCar 4 (some .int) ∈ LW := LWm4 (i := 6) rfl rfl
theorem tw_809 : Cond.methodLink RX7 220 yX7_isCar ∈ LW := LWm4 (i := 11) (by decide +kernel) rfl
theorem tw_811 : Cond.instanceMethod yX7_isCar ∈ LW := LWm4 (i := 13) (by decide +kernel) rfl
set_option maxRecDepth 100000 in theorem tw_812 : Cond.code yX7_isCar cX7_isCar 2 (some .boolean) ∈ LW := LWm4 (i := 14) rfl rfl
theorem tw_821 : Cond.methodLink RX7 229 yX1_comeTo ∈ LW := LWm4 (i := 23) (by decide +kernel) rfl
theorem tw_822 : Cond.instanceMethod yX1_comeTo ∈ LW := LWm4 (i := 24) (by decide +kernel) rfl
theorem tw_823 : Cond.selects RX1 yX1_comeTo yX1_comeTo ∈ LW := LWm4 (i := 25) (by decide +kernel) rfl
set_option maxRecDepth 100000 in theorem tw_824 : Cond.code yX1_comeTo cX1_comeTo 5 none ∈ LW := LWm4 (i := 26) rfl rfl
theorem tw_830 : Cond.methodLink RX7 233 yX1_placeOf ∈ LW := LWm4 (i := 32) (by decide +kernel) rfl
theorem tw_831 : Cond.instanceMethod yX1_placeOf ∈ LW := LWm4 (i := 33) (by decide +kernel) rfl
theorem tw_832 : Cond.selects RX1 yX1_placeOf yX1_placeOf ∈ LW := LWm4 (i := 34) (by decide +kernel) rfl
set_option maxRecDepth 100000 in theorem tw_833 : Cond.code yX1_placeOf cX1_placeOf 4 (some .int) ∈ LW := LWm4 (i := 35) rfl rfl
theorem tw_842 : Cond.methodLink RX7 236 yX1_costAt ∈ LW := LWm4 (i := 44) (by decide +kernel) rfl
theorem tw_850 : Cond.methodLink RX7 239 yX7_refuseSet ∈ LW := LWm4 (i := 52) (by decide +kernel) rfl
theorem tw_852 : Cond.instanceMethod yX7_refuseSet ∈ LW := LWm4 (i := 54) (by decide +kernel) rfl
set_option maxRecDepth 100000 in theorem tw_853 : Cond.code yX7_refuseSet cX7_refuseSet 3 (some .int) ∈ LW := LWm4 (i := 55) rfl rfl
theorem tw_854 : Cond.methodLink RX7 242 yX1_isAtRest ∈ LW := LWm4 (i := 56) (by decide +kernel) rfl
theorem tw_871 : Cond.methodLink RX7 246 yX1_goByTurns ∈ LW := LWm4 (i := 73) (by decide +kernel) rfl
theorem tw_879 : Cond.methodLink RX7 250 yX4_takeBars ∈ LW := LWm4 (i := 81) (by decide +kernel) rfl
theorem tw_880 : Cond.instanceMethod yX4_takeBars ∈ LW := LWm4 (i := 82) (by decide +kernel) rfl
theorem tw_881 : Cond.selects RX4 yX4_takeBars yX4_takeBars ∈ LW := LWm4 (i := 83) (by decide +kernel) rfl
set_option maxRecDepth 100000 in theorem tw_882 : Cond.code yX4_takeBars cX4_takeBars 2 none ∈ LW := LWm4 (i := 84) rfl rfl
theorem tw_888 : Cond.methodLink RX7 254 yX1_countRests ∈ LW := LWm4 (i := 90) (by decide +kernel) rfl
theorem tw_889 : Cond.instanceMethod yX1_countRests ∈ LW := LWm4 (i := 91) (by decide +kernel) rfl
theorem tw_890 : Cond.selects RX1 yX1_countRests yX1_countRests ∈ LW := LWm4 (i := 92) (by decide +kernel) rfl
set_option maxRecDepth 100000 in theorem tw_891 : Cond.code yX1_countRests cX1_countRests 6 (some .int) ∈ LW := LWm4 (i := 93) rfl rfl
theorem tw_897 : Cond.methodLink RX7 257 yX1_costOfAll ∈ LW := LWm4 (i := 99) (by decide +kernel) rfl
theorem tw_901 : Cond.methodLink RX7 260 yX1_leastOfAll ∈ LW := LWm4 (i := 103) (by decide +kernel) rfl
theorem tw_902 : Cond.instanceMethod yX1_leastOfAll ∈ LW := LWm4 (i := 104) (by decide +kernel) rfl
theorem tw_903 : Cond.selects RX1 yX1_leastOfAll yX1_leastOfAll ∈ LW := LWm4 (i := 105) (by decide +kernel) rfl
set_option maxRecDepth 100000 in theorem tw_904 : Cond.code yX1_leastOfAll cX1_leastOfAll 4 (some .int) ∈ LW := LWm4 (i := 106) rfl rfl
theorem tw_914 : Cond.methodLink RX7 263 yX1_mendingPrice ∈ LW := LWm4 (i := 116) (by decide +kernel) rfl
theorem tw_915 : Cond.instanceMethod yX1_mendingPrice ∈ LW := LWm4 (i := 117) (by decide +kernel) rfl
theorem tw_916 : Cond.selects RX1 yX1_mendingPrice yX1_mendingPrice ∈ LW := LWm4 (i := 118) (by decide +kernel) rfl
set_option maxRecDepth 100000 in theorem tw_917 : Cond.code yX1_mendingPrice cX1_mendingPrice 6 (some .int) ∈ LW := LWm4 (i := 119) rfl rfl
theorem tw_928 : Cond.methodLink RX7 269 yX2_eveningOf ∈ LW := LWm4 (i := 130) (by decide +kernel) rfl
theorem tw_929 : Cond.instanceMethod yX2_eveningOf ∈ LW := LWm4 (i := 131) (by decide +kernel) rfl
theorem tw_930 : Cond.selects RX2 yX2_eveningOf yX2_eveningOf ∈ LW := LWm4 (i := 132) (by decide +kernel) rfl
set_option maxRecDepth 100000 in theorem tw_931 : Cond.code yX2_eveningOf cX2_eveningOf 11 (some .int) ∈ LW := LWm4 (i := 133) rfl rfl
theorem tw_940 : Cond.constantLong RX7 273 (1000) ∈ LW := LWm4 (i := 142) (by decide +kernel) rfl
theorem tw_955 : Cond.methodLink RX7 280 yX4_copyFrom ∈ LW := LWm4 (i := 157) (by decide +kernel) rfl
theorem tw_956 : Cond.instanceMethod yX4_copyFrom ∈ LW := LWm4 (i := 158) (by decide +kernel) rfl
theorem tw_957 : Cond.selects RX4 yX4_copyFrom yX4_copyFrom ∈ LW := LWm4 (i := 159) (by decide +kernel) rfl
set_option maxRecDepth 100000 in theorem tw_958 : Cond.code yX4_copyFrom cX4_copyFrom 2 none ∈ LW := LWm4 (i := 160) rfl rfl
theorem f_x_feed_rows : True := trivial
theorem dX7_feed_0 : decode cX7_feed 0 = .ok (.iload_n 1, 1) := by decide +kernel
theorem dX7_feed_1 : decode cX7_feed 1 = .ok (.iconst 1, 1) := by decide +kernel
theorem dX7_feed_2 : decode cX7_feed 2 = .ok (.if_icmp .lt 9, 3) := by decide +kernel
theorem dX7_feed_5 : decode cX7_feed 5 = .ok (.iload_n 1, 1) := by decide +kernel
theorem dX7_feed_6 : decode cX7_feed 6 = .ok (.bipush 8, 2) := by decide +kernel
theorem dX7_feed_8 : decode cX7_feed 8 = .ok (.if_icmp .le 7, 3) := by decide +kernel
theorem dX7_feed_11 : decode cX7_feed 11 = .ok (.sipush (-1002), 3) := by decide +kernel
theorem dX7_feed_14 : decode cX7_feed 14 = .ok (.ireturn, 1) := by decide +kernel
theorem dX7_feed_15 : decode cX7_feed 15 = .ok (.aload_n 0, 1) := by decide +kernel
theorem dX7_feed_16 : decode cX7_feed 16 = .ok (.getfield 12, 3) := by decide +kernel
theorem dX7_feed_19 : decode cX7_feed 19 = .ok (.getfield 81, 3) := by decide +kernel
theorem dX7_feed_22 : decode cX7_feed 22 = .ok (.iload_n 1, 1) := by decide +kernel
theorem dX7_feed_23 : decode cX7_feed 23 = .ok (.iadd, 1) := by decide +kernel
theorem dX7_feed_24 : decode cX7_feed 24 = .ok (.sipush 240, 3) := by decide +kernel
theorem dX7_feed_27 : decode cX7_feed 27 = .ok (.if_icmp .le 7, 3) := by decide +kernel
theorem dX7_feed_30 : decode cX7_feed 30 = .ok (.sipush (-1004), 3) := by decide +kernel
theorem dX7_feed_33 : decode cX7_feed 33 = .ok (.ireturn, 1) := by decide +kernel
theorem dX7_feed_34 : decode cX7_feed 34 = .ok (.iload_n 1, 1) := by decide +kernel
theorem dX7_feed_35 : decode cX7_feed 35 = .ok (.iconst 1, 1) := by decide +kernel
theorem dX7_feed_36 : decode cX7_feed 36 = .ok (.isub, 1) := by decide +kernel
theorem dX7_feed_37 : decode cX7_feed 37 = .ok (.istore 4, 2) := by decide +kernel
theorem dX7_feed_39 : decode cX7_feed 39 = .ok (.iload 4, 2) := by decide +kernel
theorem dX7_feed_41 : decode cX7_feed 41 = .ok (.ifCond .lt 25, 3) := by decide +kernel
theorem dX7_feed_44 : decode cX7_feed 44 = .ok (.aload_n 0, 1) := by decide +kernel
theorem dX7_feed_45 : decode cX7_feed 45 = .ok (.getfield 12, 3) := by decide +kernel
theorem dX7_feed_48 : decode cX7_feed 48 = .ok (.lload_n 2, 1) := by decide +kernel
theorem dX7_feed_49 : decode cX7_feed 49 = .ok (.bipush 8, 2) := by decide +kernel
theorem dX7_feed_51 : decode cX7_feed 51 = .ok (.iload 4, 2) := by decide +kernel
theorem dX7_feed_53 : decode cX7_feed 53 = .ok (.imul, 1) := by decide +kernel
theorem dX7_feed_54 : decode cX7_feed 54 = .ok (.lshr, 1) := by decide +kernel
theorem dX7_feed_55 : decode cX7_feed 55 = .ok (.l2i, 1) := by decide +kernel
theorem dX7_feed_56 : decode cX7_feed 56 = .ok (.i2b, 1) := by decide +kernel
theorem dX7_feed_57 : decode cX7_feed 57 = .ok (.invokevirtual 84, 3) := by decide +kernel
theorem dX7_feed_60 : decode cX7_feed 60 = .ok (.iinc 4 (-1), 3) := by decide +kernel
theorem dX7_feed_63 : decode cX7_feed 63 = .ok (.goto (-24), 3) := by decide +kernel
theorem dX7_feed_66 : decode cX7_feed 66 = .ok (.aload_n 0, 1) := by decide +kernel
theorem dX7_feed_67 : decode cX7_feed 67 = .ok (.getfield 12, 3) := by decide +kernel
theorem dX7_feed_70 : decode cX7_feed 70 = .ok (.getfield 81, 3) := by decide +kernel
theorem dX7_feed_73 : decode cX7_feed 73 = .ok (.ireturn, 1) := by decide +kernel
theorem f_x_street_rows : True := trivial
theorem dX7_street_0 : decode cX7_street 0 = .ok (.iload_n 1, 1) := by decide +kernel
theorem dX7_street_1 : decode cX7_street 1 = .ok (.ifCond .lt 8, 3) := by decide +kernel
theorem dX7_street_4 : decode cX7_street 4 = .ok (.iload_n 1, 1) := by decide +kernel
theorem dX7_street_5 : decode cX7_street 5 = .ok (.iconst 3, 1) := by decide +kernel
theorem dX7_street_6 : decode cX7_street 6 = .ok (.if_icmp .lt 7, 3) := by decide +kernel
theorem dX7_street_9 : decode cX7_street 9 = .ok (.sipush (-1001), 3) := by decide +kernel
theorem dX7_street_12 : decode cX7_street 12 = .ok (.ireturn, 1) := by decide +kernel
theorem dX7_street_13 : decode cX7_street 13 = .ok (.aload_n 0, 1) := by decide +kernel
theorem dX7_street_14 : decode cX7_street 14 = .ok (.getfield 12, 3) := by decide +kernel
theorem dX7_street_17 : decode cX7_street 17 = .ok (.invokevirtual 88, 3) := by decide +kernel
theorem dX7_street_20 : decode cX7_street 20 = .ok (.aload_n 0, 1) := by decide +kernel
theorem dX7_street_21 : decode cX7_street 21 = .ok (.getfield 29, 3) := by decide +kernel
theorem dX7_street_24 : decode cX7_street 24 = .ok (.aload_n 0, 1) := by decide +kernel
theorem dX7_street_25 : decode cX7_street 25 = .ok (.getfield 12, 3) := by decide +kernel
theorem dX7_street_28 : decode cX7_street 28 = .ok (.invokevirtual 91, 3) := by decide +kernel
theorem dX7_street_31 : decode cX7_street 31 = .ok (.aload_n 0, 1) := by decide +kernel
theorem dX7_street_32 : decode cX7_street 32 = .ok (.invokevirtual 95, 3) := by decide +kernel
theorem dX7_street_35 : decode cX7_street 35 = .ok (.istore_n 2, 1) := by decide +kernel
theorem dX7_street_36 : decode cX7_street 36 = .ok (.iload_n 2, 1) := by decide +kernel
theorem dX7_street_37 : decode cX7_street 37 = .ok (.ifCond .ge 5, 3) := by decide +kernel
theorem dX7_street_40 : decode cX7_street 40 = .ok (.iload_n 2, 1) := by decide +kernel
theorem dX7_street_41 : decode cX7_street 41 = .ok (.ireturn, 1) := by decide +kernel
theorem dX7_street_42 : decode cX7_street 42 = .ok (.aload_n 0, 1) := by decide +kernel
theorem dX7_street_43 : decode cX7_street 43 = .ok (.getfield 18, 3) := by decide +kernel
theorem dX7_street_46 : decode cX7_street 46 = .ok (.iload_n 1, 1) := by decide +kernel
theorem dX7_street_47 : decode cX7_street 47 = .ok (.aaload, 1) := by decide +kernel
theorem dX7_street_48 : decode cX7_street 48 = .ok (.aload_n 0, 1) := by decide +kernel
theorem dX7_street_49 : decode cX7_street 49 = .ok (.getfield 29, 3) := by decide +kernel
theorem dX7_street_52 : decode cX7_street 52 = .ok (.invokevirtual 99, 3) := by decide +kernel
theorem dX7_street_55 : decode cX7_street 55 = .ok (.aload_n 0, 1) := by decide +kernel
theorem dX7_street_56 : decode cX7_street 56 = .ok (.getfield 24, 3) := by decide +kernel
theorem dX7_street_59 : decode cX7_street 59 = .ok (.iload_n 1, 1) := by decide +kernel
theorem dX7_street_60 : decode cX7_street 60 = .ok (.aaload, 1) := by decide +kernel
theorem dX7_street_61 : decode cX7_street 61 = .ok (.invokevirtual 102, 3) := by decide +kernel
theorem dX7_street_64 : decode cX7_street 64 = .ok (.aload_n 0, 1) := by decide +kernel
theorem dX7_street_65 : decode cX7_street 65 = .ok (.getfield 18, 3) := by decide +kernel
theorem dX7_street_68 : decode cX7_street 68 = .ok (.iload_n 1, 1) := by decide +kernel
theorem dX7_street_69 : decode cX7_street 69 = .ok (.aaload, 1) := by decide +kernel
theorem dX7_street_70 : decode cX7_street 70 = .ok (.invokevirtual 105, 3) := by decide +kernel
theorem dX7_street_73 : decode cX7_street 73 = .ok (.ireturn, 1) := by decide +kernel
theorem f_x_rule_rows : True := trivial
theorem dX7_rule_0 : decode cX7_rule 0 = .ok (.aload_n 0, 1) := by decide +kernel
theorem dX7_rule_1 : decode cX7_rule 1 = .ok (.getfield 12, 3) := by decide +kernel
theorem dX7_rule_4 : decode cX7_rule 4 = .ok (.getfield 81, 3) := by decide +kernel
theorem dX7_rule_7 : decode cX7_rule 7 = .ok (.bipush 80, 2) := by decide +kernel
theorem dX7_rule_9 : decode cX7_rule 9 = .ok (.if_icmp .le 7, 3) := by decide +kernel
theorem dX7_rule_12 : decode cX7_rule 12 = .ok (.sipush (-1003), 3) := by decide +kernel
theorem dX7_rule_15 : decode cX7_rule 15 = .ok (.ireturn, 1) := by decide +kernel
theorem dX7_rule_16 : decode cX7_rule 16 = .ok (.aload_n 0, 1) := by decide +kernel
theorem dX7_rule_17 : decode cX7_rule 17 = .ok (.getfield 39, 3) := by decide +kernel
theorem dX7_rule_20 : decode cX7_rule 20 = .ok (.iconst 4, 1) := by decide +kernel
theorem dX7_rule_21 : decode cX7_rule 21 = .ok (.if_icmp .lt 7, 3) := by decide +kernel
theorem dX7_rule_24 : decode cX7_rule 24 = .ok (.sipush (-1004), 3) := by decide +kernel
theorem dX7_rule_27 : decode cX7_rule 27 = .ok (.ireturn, 1) := by decide +kernel
theorem dX7_rule_28 : decode cX7_rule 28 = .ok (.aload_n 0, 1) := by decide +kernel
theorem dX7_rule_29 : decode cX7_rule 29 = .ok (.getfield 12, 3) := by decide +kernel
theorem dX7_rule_32 : decode cX7_rule 32 = .ok (.invokevirtual 88, 3) := by decide +kernel
theorem dX7_rule_35 : decode cX7_rule 35 = .ok (.aload_n 0, 1) := by decide +kernel
theorem dX7_rule_36 : decode cX7_rule 36 = .ok (.getfield 35, 3) := by decide +kernel
theorem dX7_rule_39 : decode cX7_rule 39 = .ok (.aload_n 0, 1) := by decide +kernel
theorem dX7_rule_40 : decode cX7_rule 40 = .ok (.getfield 39, 3) := by decide +kernel
theorem dX7_rule_43 : decode cX7_rule 43 = .ok (.aaload, 1) := by decide +kernel
theorem dX7_rule_44 : decode cX7_rule 44 = .ok (.aload_n 0, 1) := by decide +kernel
theorem dX7_rule_45 : decode cX7_rule 45 = .ok (.getfield 12, 3) := by decide +kernel
theorem dX7_rule_48 : decode cX7_rule 48 = .ok (.invokevirtual 168, 3) := by decide +kernel
theorem dX7_rule_51 : decode cX7_rule 51 = .ok (.aload_n 0, 1) := by decide +kernel
theorem dX7_rule_52 : decode cX7_rule 52 = .ok (.invokevirtual 95, 3) := by decide +kernel
theorem dX7_rule_55 : decode cX7_rule 55 = .ok (.istore_n 1, 1) := by decide +kernel
theorem dX7_rule_56 : decode cX7_rule 56 = .ok (.iload_n 1, 1) := by decide +kernel
theorem dX7_rule_57 : decode cX7_rule 57 = .ok (.ifCond .ge 5, 3) := by decide +kernel
theorem dX7_rule_60 : decode cX7_rule 60 = .ok (.iload_n 1, 1) := by decide +kernel
theorem dX7_rule_61 : decode cX7_rule 61 = .ok (.ireturn, 1) := by decide +kernel
theorem dX7_rule_62 : decode cX7_rule 62 = .ok (.aload_n 0, 1) := by decide +kernel
theorem dX7_rule_63 : decode cX7_rule 63 = .ok (.dup, 1) := by decide +kernel
theorem dX7_rule_64 : decode cX7_rule 64 = .ok (.getfield 39, 3) := by decide +kernel
theorem dX7_rule_67 : decode cX7_rule 67 = .ok (.iconst 1, 1) := by decide +kernel
theorem dX7_rule_68 : decode cX7_rule 68 = .ok (.iadd, 1) := by decide +kernel
theorem dX7_rule_69 : decode cX7_rule 69 = .ok (.putfield 39, 3) := by decide +kernel
theorem dX7_rule_72 : decode cX7_rule 72 = .ok (.aload_n 0, 1) := by decide +kernel
theorem dX7_rule_73 : decode cX7_rule 73 = .ok (.getfield 39, 3) := by decide +kernel
theorem dX7_rule_76 : decode cX7_rule 76 = .ok (.iconst 1, 1) := by decide +kernel
theorem dX7_rule_77 : decode cX7_rule 77 = .ok (.isub, 1) := by decide +kernel
theorem dX7_rule_78 : decode cX7_rule 78 = .ok (.ireturn, 1) := by decide +kernel
theorem f_x_mean_rows : True := trivial
theorem dX7_mean_0 : decode cX7_mean 0 = .ok (.aload_n 0, 1) := by decide +kernel
theorem dX7_mean_1 : decode cX7_mean 1 = .ok (.iload_n 1, 1) := by decide +kernel
theorem dX7_mean_2 : decode cX7_mean 2 = .ok (.invokevirtual 108, 3) := by decide +kernel
theorem dX7_mean_5 : decode cX7_mean 5 = .ok (.ifCond .eq 11, 3) := by decide +kernel
theorem dX7_mean_8 : decode cX7_mean 8 = .ok (.aload_n 0, 1) := by decide +kernel
theorem dX7_mean_9 : decode cX7_mean 9 = .ok (.iload_n 2, 1) := by decide +kernel
theorem dX7_mean_10 : decode cX7_mean 10 = .ok (.invokevirtual 169, 3) := by decide +kernel
theorem dX7_mean_13 : decode cX7_mean 13 = .ok (.ifCond .ne 7, 3) := by decide +kernel
theorem dX7_mean_16 : decode cX7_mean 16 = .ok (.sipush (-1001), 3) := by decide +kernel
theorem dX7_mean_19 : decode cX7_mean 19 = .ok (.ireturn, 1) := by decide +kernel
theorem dX7_mean_20 : decode cX7_mean 20 = .ok (.iload_n 3, 1) := by decide +kernel
theorem dX7_mean_21 : decode cX7_mean 21 = .ok (.iconst 0, 1) := by decide +kernel
theorem dX7_mean_22 : decode cX7_mean 22 = .ok (.iconst 2, 1) := by decide +kernel
theorem dX7_mean_23 : decode cX7_mean 23 = .ok (.invokestatic 112, 3) := by decide +kernel
theorem dX7_mean_26 : decode cX7_mean 26 = .ok (.ifCond .eq 26, 3) := by decide +kernel
theorem dX7_mean_29 : decode cX7_mean 29 = .ok (.aload_n 0, 1) := by decide +kernel
theorem dX7_mean_30 : decode cX7_mean 30 = .ok (.getfield 64, 3) := by decide +kernel
theorem dX7_mean_33 : decode cX7_mean 33 = .ok (.aload_n 0, 1) := by decide +kernel
theorem dX7_mean_34 : decode cX7_mean 34 = .ok (.getfield 18, 3) := by decide +kernel
theorem dX7_mean_37 : decode cX7_mean 37 = .ok (.iload_n 1, 1) := by decide +kernel
theorem dX7_mean_38 : decode cX7_mean 38 = .ok (.aaload, 1) := by decide +kernel
theorem dX7_mean_39 : decode cX7_mean 39 = .ok (.aload_n 0, 1) := by decide +kernel
theorem dX7_mean_40 : decode cX7_mean 40 = .ok (.getfield 35, 3) := by decide +kernel
theorem dX7_mean_43 : decode cX7_mean 43 = .ok (.iload_n 2, 1) := by decide +kernel
theorem dX7_mean_44 : decode cX7_mean 44 = .ok (.aaload, 1) := by decide +kernel
theorem dX7_mean_45 : decode cX7_mean 45 = .ok (.iload_n 3, 1) := by decide +kernel
theorem dX7_mean_46 : decode cX7_mean 46 = .ok (.invokevirtual 172, 3) := by decide +kernel
theorem dX7_mean_49 : decode cX7_mean 49 = .ok (.goto 6, 3) := by decide +kernel
theorem dX7_mean_52 : decode cX7_mean 52 = .ok (.sipush (-1002), 3) := by decide +kernel
theorem dX7_mean_55 : decode cX7_mean 55 = .ok (.ireturn, 1) := by decide +kernel
theorem f_x_saw_rows : True := trivial
theorem dX7_saw_0 : decode cX7_saw 0 = .ok (.aload_n 0, 1) := by decide +kernel
theorem dX7_saw_1 : decode cX7_saw 1 = .ok (.getfield 49, 3) := by decide +kernel
theorem dX7_saw_4 : decode cX7_saw 4 = .ok (.getfield 176, 3) := by decide +kernel
theorem dX7_saw_7 : decode cX7_saw 7 = .ok (.bipush 24, 2) := by decide +kernel
theorem dX7_saw_9 : decode cX7_saw 9 = .ok (.if_icmp .ge 14, 3) := by decide +kernel
theorem dX7_saw_12 : decode cX7_saw 12 = .ok (.aload_n 0, 1) := by decide +kernel
theorem dX7_saw_13 : decode cX7_saw 13 = .ok (.getfield 49, 3) := by decide +kernel
theorem dX7_saw_16 : decode cX7_saw 16 = .ok (.iload_n 1, 1) := by decide +kernel
theorem dX7_saw_17 : decode cX7_saw 17 = .ok (.invokevirtual 179, 3) := by decide +kernel
theorem dX7_saw_20 : decode cX7_saw 20 = .ok (.goto 6, 3) := by decide +kernel
theorem dX7_saw_23 : decode cX7_saw 23 = .ok (.sipush (-1004), 3) := by decide +kernel
theorem dX7_saw_26 : decode cX7_saw 26 = .ok (.ireturn, 1) := by decide +kernel
theorem f_x_clear_rows : True := trivial
theorem dX7_clear_0 : decode cX7_clear 0 = .ok (.aload_n 0, 1) := by decide +kernel
theorem dX7_clear_1 : decode cX7_clear 1 = .ok (.getfield 49, 3) := by decide +kernel
theorem dX7_clear_4 : decode cX7_clear 4 = .ok (.getfield 176, 3) := by decide +kernel
theorem dX7_clear_7 : decode cX7_clear 7 = .ok (.istore_n 1, 1) := by decide +kernel
theorem dX7_clear_8 : decode cX7_clear 8 = .ok (.aload_n 0, 1) := by decide +kernel
theorem dX7_clear_9 : decode cX7_clear 9 = .ok (.getfield 49, 3) := by decide +kernel
theorem dX7_clear_12 : decode cX7_clear 12 = .ok (.iconst 0, 1) := by decide +kernel
theorem dX7_clear_13 : decode cX7_clear 13 = .ok (.putfield 176, 3) := by decide +kernel
theorem dX7_clear_16 : decode cX7_clear 16 = .ok (.aload_n 0, 1) := by decide +kernel
theorem dX7_clear_17 : decode cX7_clear 17 = .ok (.getfield 49, 3) := by decide +kernel
theorem dX7_clear_20 : decode cX7_clear 20 = .ok (.iconst 0, 1) := by decide +kernel
theorem dX7_clear_21 : decode cX7_clear 21 = .ok (.putfield 183, 3) := by decide +kernel
theorem dX7_clear_24 : decode cX7_clear 24 = .ok (.iload_n 1, 1) := by decide +kernel
theorem dX7_clear_25 : decode cX7_clear 25 = .ok (.ireturn, 1) := by decide +kernel
theorem f_x_waits_rows : True := trivial
theorem dX7_waits_0 : decode cX7_waits 0 = .ok (.aload_n 0, 1) := by decide +kernel
theorem dX7_waits_1 : decode cX7_waits 1 = .ok (.iload_n 1, 1) := by decide +kernel
theorem dX7_waits_2 : decode cX7_waits 2 = .ok (.iload_n 2, 1) := by decide +kernel
theorem dX7_waits_3 : decode cX7_waits 3 = .ok (.iload_n 3, 1) := by decide +kernel
theorem dX7_waits_4 : decode cX7_waits 4 = .ok (.iload 4, 2) := by decide +kernel
theorem dX7_waits_6 : decode cX7_waits 6 = .ok (.invokevirtual 141, 3) := by decide +kernel
theorem dX7_waits_9 : decode cX7_waits 9 = .ok (.istore 8, 2) := by decide +kernel
theorem dX7_waits_11 : decode cX7_waits 11 = .ok (.iload 8, 2) := by decide +kernel
theorem dX7_waits_13 : decode cX7_waits 13 = .ok (.ifCond .eq 6, 3) := by decide +kernel
theorem dX7_waits_16 : decode cX7_waits 16 = .ok (.iload 8, 2) := by decide +kernel
theorem dX7_waits_18 : decode cX7_waits 18 = .ok (.ireturn, 1) := by decide +kernel
theorem dX7_waits_19 : decode cX7_waits 19 = .ok (.iload 5, 2) := by decide +kernel
theorem dX7_waits_21 : decode cX7_waits 21 = .ok (.iconst 0, 1) := by decide +kernel
theorem dX7_waits_22 : decode cX7_waits 22 = .ok (.bipush 100, 2) := by decide +kernel
theorem dX7_waits_24 : decode cX7_waits 24 = .ok (.invokestatic 112, 3) := by decide +kernel
theorem dX7_waits_27 : decode cX7_waits 27 = .ok (.ifCond .eq 24, 3) := by decide +kernel
theorem dX7_waits_30 : decode cX7_waits 30 = .ok (.iload 6, 2) := by decide +kernel
theorem dX7_waits_32 : decode cX7_waits 32 = .ok (.iconst 0, 1) := by decide +kernel
theorem dX7_waits_33 : decode cX7_waits 33 = .ok (.bipush 99, 2) := by decide +kernel
theorem dX7_waits_35 : decode cX7_waits 35 = .ok (.invokestatic 112, 3) := by decide +kernel
theorem dX7_waits_38 : decode cX7_waits 38 = .ok (.ifCond .eq 13, 3) := by decide +kernel
theorem dX7_waits_41 : decode cX7_waits 41 = .ok (.iload 7, 2) := by decide +kernel
theorem dX7_waits_43 : decode cX7_waits 43 = .ok (.iconst 0, 1) := by decide +kernel
theorem dX7_waits_44 : decode cX7_waits 44 = .ok (.iconst 1, 1) := by decide +kernel
theorem dX7_waits_45 : decode cX7_waits 45 = .ok (.invokestatic 112, 3) := by decide +kernel
theorem dX7_waits_48 : decode cX7_waits 48 = .ok (.ifCond .ne 7, 3) := by decide +kernel
theorem dX7_waits_51 : decode cX7_waits 51 = .ok (.sipush (-1002), 3) := by decide +kernel
theorem dX7_waits_54 : decode cX7_waits 54 = .ok (.ireturn, 1) := by decide +kernel
theorem dX7_waits_55 : decode cX7_waits 55 = .ok (.iload 4, 2) := by decide +kernel
theorem dX7_waits_57 : decode cX7_waits 57 = .ok (.iconst 1, 1) := by decide +kernel
theorem dX7_waits_58 : decode cX7_waits 58 = .ok (.iand, 1) := by decide +kernel
theorem dX7_waits_59 : decode cX7_waits 59 = .ok (.ifCond .eq 7, 3) := by decide +kernel
theorem dX7_waits_62 : decode cX7_waits 62 = .ok (.sipush (-1003), 3) := by decide +kernel
theorem dX7_waits_65 : decode cX7_waits 65 = .ok (.ireturn, 1) := by decide +kernel
theorem dX7_waits_66 : decode cX7_waits 66 = .ok (.aload_n 0, 1) := by decide +kernel
theorem dX7_waits_67 : decode cX7_waits 67 = .ok (.getfield 64, 3) := by decide +kernel
theorem dX7_waits_70 : decode cX7_waits 70 = .ok (.aload_n 0, 1) := by decide +kernel
theorem dX7_waits_71 : decode cX7_waits 71 = .ok (.getfield 24, 3) := by decide +kernel
theorem dX7_waits_74 : decode cX7_waits 74 = .ok (.iload_n 1, 1) := by decide +kernel
theorem dX7_waits_75 : decode cX7_waits 75 = .ok (.aaload, 1) := by decide +kernel
theorem dX7_waits_76 : decode cX7_waits 76 = .ok (.iload_n 2, 1) := by decide +kernel
theorem dX7_waits_77 : decode cX7_waits 77 = .ok (.iload_n 3, 1) := by decide +kernel
theorem dX7_waits_78 : decode cX7_waits 78 = .ok (.iload 4, 2) := by decide +kernel
theorem dX7_waits_80 : decode cX7_waits 80 = .ok (.invokevirtual 149, 3) := by decide +kernel
theorem dX7_waits_83 : decode cX7_waits 83 = .ok (.aload_n 0, 1) := by decide +kernel
theorem dX7_waits_84 : decode cX7_waits 84 = .ok (.getfield 18, 3) := by decide +kernel
theorem dX7_waits_87 : decode cX7_waits 87 = .ok (.iload_n 1, 1) := by decide +kernel
theorem dX7_waits_88 : decode cX7_waits 88 = .ok (.aaload, 1) := by decide +kernel
theorem dX7_waits_89 : decode cX7_waits 89 = .ok (.iload_n 2, 1) := by decide +kernel
theorem dX7_waits_90 : decode cX7_waits 90 = .ok (.iload_n 3, 1) := by decide +kernel
theorem dX7_waits_91 : decode cX7_waits 91 = .ok (.invokevirtual 137, 3) := by decide +kernel
theorem dX7_waits_94 : decode cX7_waits 94 = .ok (.iload 5, 2) := by decide +kernel
theorem dX7_waits_96 : decode cX7_waits 96 = .ok (.iload 6, 2) := by decide +kernel
theorem dX7_waits_98 : decode cX7_waits 98 = .ok (.invokevirtual 197, 3) := by decide +kernel
theorem dX7_waits_101 : decode cX7_waits 101 = .ok (.iload 7, 2) := by decide +kernel
theorem dX7_waits_103 : decode cX7_waits 103 = .ok (.ifCond .ne 13, 3) := by decide +kernel
theorem dX7_waits_106 : decode cX7_waits 106 = .ok (.aload_n 0, 1) := by decide +kernel
theorem dX7_waits_107 : decode cX7_waits 107 = .ok (.getfield 64, 3) := by decide +kernel
theorem dX7_waits_110 : decode cX7_waits 110 = .ok (.getfield 201, 3) := by decide +kernel
theorem dX7_waits_113 : decode cX7_waits 113 = .ok (.goto 10, 3) := by decide +kernel
theorem dX7_waits_116 : decode cX7_waits 116 = .ok (.aload_n 0, 1) := by decide +kernel
theorem dX7_waits_117 : decode cX7_waits 117 = .ok (.getfield 64, 3) := by decide +kernel
theorem dX7_waits_120 : decode cX7_waits 120 = .ok (.getfield 204, 3) := by decide +kernel
theorem dX7_waits_123 : decode cX7_waits 123 = .ok (.ireturn, 1) := by decide +kernel
theorem f_x_boy_rows : True := trivial
theorem dX7_boy_0 : decode cX7_boy 0 = .ok (.aload_n 0, 1) := by decide +kernel
theorem dX7_boy_1 : decode cX7_boy 1 = .ok (.iload_n 1, 1) := by decide +kernel
theorem dX7_boy_2 : decode cX7_boy 2 = .ok (.invokevirtual 108, 3) := by decide +kernel
theorem dX7_boy_5 : decode cX7_boy 5 = .ok (.ifCond .eq 30, 3) := by decide +kernel
theorem dX7_boy_8 : decode cX7_boy 8 = .ok (.aload_n 0, 1) := by decide +kernel
theorem dX7_boy_9 : decode cX7_boy 9 = .ok (.getfield 64, 3) := by decide +kernel
theorem dX7_boy_12 : decode cX7_boy 12 = .ok (.aload_n 0, 1) := by decide +kernel
theorem dX7_boy_13 : decode cX7_boy 13 = .ok (.getfield 18, 3) := by decide +kernel
theorem dX7_boy_16 : decode cX7_boy 16 = .ok (.iload_n 1, 1) := by decide +kernel
theorem dX7_boy_17 : decode cX7_boy 17 = .ok (.aaload, 1) := by decide +kernel
theorem dX7_boy_18 : decode cX7_boy 18 = .ok (.aload_n 0, 1) := by decide +kernel
theorem dX7_boy_19 : decode cX7_boy 19 = .ok (.getfield 24, 3) := by decide +kernel
theorem dX7_boy_22 : decode cX7_boy 22 = .ok (.iload_n 1, 1) := by decide +kernel
theorem dX7_boy_23 : decode cX7_boy 23 = .ok (.aaload, 1) := by decide +kernel
theorem dX7_boy_24 : decode cX7_boy 24 = .ok (.getfield 158, 3) := by decide +kernel
theorem dX7_boy_27 : decode cX7_boy 27 = .ok (.iconst 0, 1) := by decide +kernel
theorem dX7_boy_28 : decode cX7_boy 28 = .ok (.iaload, 1) := by decide +kernel
theorem dX7_boy_29 : decode cX7_boy 29 = .ok (.invokevirtual 207, 3) := by decide +kernel
theorem dX7_boy_32 : decode cX7_boy 32 = .ok (.goto 6, 3) := by decide +kernel
theorem dX7_boy_35 : decode cX7_boy 35 = .ok (.sipush (-1001), 3) := by decide +kernel
theorem dX7_boy_38 : decode cX7_boy 38 = .ok (.ireturn, 1) := by decide +kernel
theorem f_x_car_rows : True := trivial
theorem dX7_car_0 : decode cX7_car 0 = .ok (.iload_n 1, 1) := by decide +kernel
theorem dX7_car_1 : decode cX7_car 1 = .ok (.iconst 0, 1) := by decide +kernel
theorem dX7_car_2 : decode cX7_car 2 = .ok (.getstatic 211, 3) := by decide +kernel
theorem dX7_car_5 : decode cX7_car 5 = .ok (.iconst 2, 1) := by decide +kernel
theorem dX7_car_6 : decode cX7_car 6 = .ok (.iaload, 1) := by decide +kernel
theorem dX7_car_7 : decode cX7_car 7 = .ok (.invokestatic 112, 3) := by decide +kernel
theorem dX7_car_10 : decode cX7_car 10 = .ok (.ifCond .eq 13, 3) := by decide +kernel
theorem dX7_car_13 : decode cX7_car 13 = .ok (.iload_n 2, 1) := by decide +kernel
theorem dX7_car_14 : decode cX7_car 14 = .ok (.iconst 0, 1) := by decide +kernel
theorem dX7_car_15 : decode cX7_car 15 = .ok (.bipush 24, 2) := by decide +kernel
theorem dX7_car_17 : decode cX7_car 17 = .ok (.invokestatic 112, 3) := by decide +kernel
theorem dX7_car_20 : decode cX7_car 20 = .ok (.ifCond .ne 7, 3) := by decide +kernel
theorem dX7_car_23 : decode cX7_car 23 = .ok (.sipush (-1002), 3) := by decide +kernel
theorem dX7_car_26 : decode cX7_car 26 = .ok (.ireturn, 1) := by decide +kernel
theorem dX7_car_27 : decode cX7_car 27 = .ok (.aload_n 0, 1) := by decide +kernel
theorem dX7_car_28 : decode cX7_car 28 = .ok (.getfield 49, 3) := by decide +kernel
theorem dX7_car_31 : decode cX7_car 31 = .ok (.getfield 214, 3) := by decide +kernel
theorem dX7_car_34 : decode cX7_car 34 = .ok (.iconst 4, 1) := by decide +kernel
theorem dX7_car_35 : decode cX7_car 35 = .ok (.if_icmp .ge 15, 3) := by decide +kernel
theorem dX7_car_38 : decode cX7_car 38 = .ok (.aload_n 0, 1) := by decide +kernel
theorem dX7_car_39 : decode cX7_car 39 = .ok (.getfield 49, 3) := by decide +kernel
theorem dX7_car_42 : decode cX7_car 42 = .ok (.iload_n 1, 1) := by decide +kernel
theorem dX7_car_43 : decode cX7_car 43 = .ok (.iload_n 2, 1) := by decide +kernel
theorem dX7_car_44 : decode cX7_car 44 = .ok (.invokevirtual 217, 3) := by decide +kernel
theorem dX7_car_47 : decode cX7_car 47 = .ok (.goto 6, 3) := by decide +kernel
theorem dX7_car_50 : decode cX7_car 50 = .ok (.sipush (-1004), 3) := by decide +kernel
theorem dX7_car_53 : decode cX7_car 53 = .ok (.ireturn, 1) := by decide +kernel
theorem dX7_steer_0 : decode cX7_steer 0 = .ok (.aload_n 0, 1) := by decide +kernel
theorem dX7_steer_1 : decode cX7_steer 1 = .ok (.iload_n 1, 1) := by decide +kernel
theorem dX7_steer_2 : decode cX7_steer 2 = .ok (.invokevirtual 220, 3) := by decide +kernel
theorem dX7_steer_5 : decode cX7_steer 5 = .ok (.ifCond .ne 7, 3) := by decide +kernel
theorem dX7_steer_8 : decode cX7_steer 8 = .ok (.sipush (-1001), 3) := by decide +kernel
theorem dX7_steer_11 : decode cX7_steer 11 = .ok (.ireturn, 1) := by decide +kernel
theorem dX7_steer_12 : decode cX7_steer 12 = .ok (.iload_n 2, 1) := by decide +kernel
theorem dX7_steer_13 : decode cX7_steer 13 = .ok (.iconst 0, 1) := by decide +kernel
theorem dX7_steer_14 : decode cX7_steer 14 = .ok (.bipush 24, 2) := by decide +kernel
theorem dX7_steer_16 : decode cX7_steer 16 = .ok (.invokestatic 112, 3) := by decide +kernel
theorem dX7_steer_19 : decode cX7_steer 19 = .ok (.ifCond .ne 7, 3) := by decide +kernel
theorem dX7_steer_22 : decode cX7_steer 22 = .ok (.sipush (-1002), 3) := by decide +kernel
theorem dX7_steer_25 : decode cX7_steer 25 = .ok (.ireturn, 1) := by decide +kernel
theorem dX7_steer_26 : decode cX7_steer 26 = .ok (.aload_n 0, 1) := by decide +kernel
theorem dX7_steer_27 : decode cX7_steer 27 = .ok (.getfield 49, 3) := by decide +kernel
theorem dX7_steer_30 : decode cX7_steer 30 = .ok (.getfield 223, 3) := by decide +kernel
theorem dX7_steer_33 : decode cX7_steer 33 = .ok (.iload_n 1, 1) := by decide +kernel
theorem dX7_steer_34 : decode cX7_steer 34 = .ok (.iaload, 1) := by decide +kernel
theorem dX7_steer_35 : decode cX7_steer 35 = .ok (.istore_n 3, 1) := by decide +kernel
theorem dX7_steer_36 : decode cX7_steer 36 = .ok (.aload_n 0, 1) := by decide +kernel
theorem dX7_steer_37 : decode cX7_steer 37 = .ok (.getfield 49, 3) := by decide +kernel
theorem dX7_steer_40 : decode cX7_steer 40 = .ok (.getfield 223, 3) := by decide +kernel
theorem dX7_steer_43 : decode cX7_steer 43 = .ok (.iload_n 1, 1) := by decide +kernel
theorem dX7_steer_44 : decode cX7_steer 44 = .ok (.iload_n 2, 1) := by decide +kernel
theorem dX7_steer_45 : decode cX7_steer 45 = .ok (.iastore, 1) := by decide +kernel
theorem dX7_steer_46 : decode cX7_steer 46 = .ok (.iload_n 3, 1) := by decide +kernel
theorem dX7_steer_47 : decode cX7_steer 47 = .ok (.ireturn, 1) := by decide +kernel
set_option maxHeartbeats 4000000 in
set_option maxRecDepth 100000 in
theorem x_steer (l : Launch) (D : va_G) (k : Nat → ClassId) (st : Nat → Nat) (lo : Nat) (a : Nat → Nat) (rk : Nat) (lfa : Int32) (cc : Nat) (rz : Nat) (ro : Int32) (sd : Int32) (wk : Nat → Int32) (br : Nat → Nat) (p0 : Int32) (p1 : Int32) (hcc : cc ≤ 4) (hbr : ∀ j, br j ≤ 24) : CWi l D k st lo yX7_steer cX7_steer 4 (some .int) ({ frames := 1, cells := 0, slots := 0, locals := 22 }) 0 0 [.ref (a 0), .int p0, .int p1] [((a 0), .inr (7, (fX7 (a 1) (a 3) (a 19) (a 35) (a 40) (nI rk) lfa (a 53) (a 56) (a 63) (a 64) (a 68)))), ((a 53), .inr (4, (fX4 (a 54) (a 55) (nI cc) (nI rz) ro sd))), (aI k (a 54) 4 wk), (aI k (a 55) 4 (nF br))] (fun (r : Int32) (br_ : (Nat → Nat)) => ∀ j, br_ j ≤ 24) (fun (br_ : (Nat → Nat)) => [((a 0), .inr (7, (fX7 (a 1) (a 3) (a 19) (a 35) (a 40) (nI rk) lfa (a 53) (a 56) (a 63) (a 64) (a 68)))), ((a 53), .inr (4, (fX4 (a 54) (a 55) (nI cc) (nI rz) ro sd))), (aI k (a 54) 4 wk), (aI k (a 55) 4 (nF br_))]) := by
  intro sz
  refine Met.ofW (cc := cX7_steer) (maxL := 4) (ret := (some .int)) (by decide) rfl ?_
  intro p e s m args below meth c s₁ B hml hv
  obtain ⟨rfl, hsz, hlo, hP, hK, hDL, hZ⟩ := hv
  have hx := B.exec
  have hb := B.bytes
  have hr := B.returns
  have hts := WS_ts B.pre
  have hown : s.vm.findClass RX7 = some m.cls := findClass_of_methodNamed B.named
  have hlocks := B.notSynchronized
  subst hsz
  have hD := hDL.self (sz := s.heap.size)
  have hAlo := A_lo hDL hlo
  generalize hAe : va_A [((a 0), .inr (7, (fX7 (a 1) (a 3) (a 19) (a 35) (a 40) (nI rk) lfa (a 53) (a 56) (a 63) (a 64) (a 68)))), ((a 53), .inr (4, (fX4 (a 54) (a 55) (nI cc) (nI rz) ro sd))), (aI k (a 54) 4 wk), (aI k (a 55) 4 (nF br))] s.heap.size = A at hD hAlo ⊢
  have hA : ∀ q : Nat, s.heap.size ≤ q → A q := fun q h => by rw [← hAe]; exact Or.inr h
  have hS : va_S A s.heap s.heap [] := va_S.rf
  have hl := lv_entry ([.ref (a 0), .int p0, .int p1]) (n := 4) (Nat.le_of_ble_eq_true rfl)
  rw [lg_entry_eq]
  generalize (lg_sl ([.ref (a 0), .int p0, .int p1]) ++ List.replicate (4 - (lg_sl ([.ref (a 0), .int p0, .int p1])).length) Slot.unset).toArray = ls at hl ⊢
  have hl : lv_has ls 4 [(0, .ref (a 0)), (1, .int p0), (2, .int p1)] := hl
  refine lv_aload_n hx hb dX7_steer_0 rfl (lv_at hl 0 rfl) ?_
  refine lv_iload_n hx hb dX7_steer_1 rfl (lv_at hl 1 rfl) ?_
  refine ro_i (D := D) (va_runV (As := [.int p0]) (rest := []) ⟨hx, hb, hml, hown, hts⟩ ((x_isCar l D k st lo a rk lfa cc rz ro sd p0 (by first | assumption | omega)) s.heap.size) (cwV 1 hts (gV tw_809 tw_811 tw_17 tw_79 tw_812) rfl rfl rfl (by decide +kernel) ⟨Nat.le_of_ble_eq_true rfl, Nat.le_of_ble_eq_true rfl⟩) (pV hS hAlo hlo hP hK (va_Dlo hD hAlo) hZ [0, 1] (by decide) rfl (ci := 7) (q := (RX7, TX7, 12)) (q0 := 0) rfl rfl) rfl rfl hl.1 rfl (lv_room (Nat.le_of_ble_eq_true rfl)) dX7_steer_2 ⟨Nat.le_of_ble_eq_true rfl, Nat.le_of_ble_eq_true rfl⟩) hS hA hP (fun r_1 H locs hw_1 hP hS => ?_)
  try dsimp only at hw_1
  rcases hw_1 with ⟨rfl, ic_2, hic_2, rfl⟩ | rfl
  · refine lv_if_ne (tgt := 12) hx hb dX7_steer_5 (by decide) (fun _ => ?_) (fun h => absurd h (by decide))
    refine lv_iload_n hx hb dX7_steer_12 rfl (lv_at hl 2 rfl) ?_
    refine lv_iconst (v := 0) hx hb dX7_steer_13 (by decide) ?_
    refine lv_bipush (v := 24) hx hb dX7_steer_14 (by decide) ?_
    refine ro_i (D := D) (va_runS (As := [.int p1, .int 0, .int 24]) (rest := []) ⟨hx, hb, hml, hown, hts⟩ ((k_isIn l D k st lo p1 0 24) H.size) (va_cwS 3 hts (gS tw_593 tw_594 tw_79 tw_595) rfl rfl rfl (by decide +kernel) ⟨Nat.le_of_ble_eq_true rfl, Nat.le_of_ble_eq_true rfl⟩) (pS hS hAlo hlo hP hK (va_Dlo hD hAlo) hZ [] (by decide) rfl) rfl rfl hl.1 rfl (lv_room (Nat.le_of_ble_eq_true rfl)) dX7_steer_16 ⟨Nat.le_of_ble_eq_true rfl, Nat.le_of_ble_eq_true rfl⟩) hS hA hP (fun r_3 H locs hw_3 hP hS => ?_)
    try dsimp only at hw_3
    rcases hw_3 with ⟨rfl, hw_3⟩ | ⟨rfl, hw_3⟩
    · refine lv_if_ne (tgt := 26) hx hb dX7_steer_19 (by decide) (fun _ => ?_) (fun h => absurd h (by decide))
      obtain ⟨nb_4, hnl_4, hnh_4, rfl⟩ := inB_ofc (a := 0) (b := 24) (by omega) (by omega) hw_3
      refine lv_aload_n hx hb dX7_steer_26 rfl (lv_at hl 0 rfl) ?_
      refine va_get (D := D) (ci := 7) (v := .ref (a 53)) (C := RX7) (T := TX7) (N := 12) hx hb hts inX7 hown hK hP 0 rfl rfl 7 (by decide) (hts _ tw_312) (fun _ h9 => h9) rfl dX7_steer_27 ?_
      refine va_get (D := D) (ci := 4) (v := .ref (a 55)) (C := RX4) (T := TX4) (N := 6) hx hb hts inX4 hown hK hP 1 rfl rfl 1 (by decide) (hts _ tw_177) (fun _ h9 => h9) rfl dX7_steer_30 ?_
      refine lv_iload_n hx hb dX7_steer_33 rfl (lv_at hl 1 rfl) ?_
      refine va_iald hx hb hK hP 3 1 rfl rfl (vp_in_nI (by omega) (by decide)) dX7_steer_34 ?_
      have hq_5 := hbr ic_2
      have hq_6 := hbr ic_2
      refine lv_ti (y := (nI (br ic_2))) (by rw [nI_clamp (by omega)]; rfl) ?_
      refine lv_istore_n (lv' := [(3, .int (nI (br ic_2))), (0, .ref (a 0)), (1, .int (nI ic_2)), (2, .int (nI nb_4))]) hx hb dX7_steer_35 rfl hl (by decide) rfl (fun ls hl => ?_)
      refine lv_aload_n hx hb dX7_steer_36 rfl (lv_at hl 1 rfl) ?_
      refine va_get (D := D) (ci := 7) (v := .ref (a 53)) (C := RX7) (T := TX7) (N := 12) hx hb hts inX7 hown hK hP 0 rfl rfl 7 (by decide) (hts _ tw_312) (fun _ h9 => h9) rfl dX7_steer_37 ?_
      refine va_get (D := D) (ci := 4) (v := .ref (a 55)) (C := RX4) (T := TX4) (N := 6) hx hb hts inX4 hown hK hP 1 rfl rfl 1 (by decide) (hts _ tw_177) (fun _ h9 => h9) rfl dX7_steer_40 ?_
      refine lv_iload_n hx hb dX7_steer_43 rfl (lv_at hl 2 rfl) ?_
      refine lv_iload_n hx hb dX7_steer_44 rfl (lv_at hl 3 rfl) ?_
      refine va_iast hx hb hK hP hD hS 3 1 rfl rfl (vp_in_nI (by omega) (by decide)) dX7_steer_45 (fun H locs hP hD hS => ?_)
      have hQ9 := pd_mk [((a 0), .inr (7, (fX7 (a 1) (a 3) (a 19) (a 35) (a 40) (nI rk) lfa (a 53) (a 56) (a 63) (a 64) (a 68)))), ((a 53), .inr (4, (fX4 (a 54) (a 55) (nI cc) (nI rz) ro sd))), (aI k (a 54) 4 wk), (aI k (a 55) 4 (upd (nF br) (Int32.toNatClampNeg (nI ic_2)) (nI nb_4)))] hP hD
      clear hP hD
      obtain ⟨hP, hD⟩ := hQ9
      rw [nI_clamp (n := ic_2) (by omega)] at hP hD
      rw [show upd (nF br) ic_2 (nI nb_4) = nF (fun j => if j = ic_2 then nb_4 else br j) from nF_upd _ _ _] at hP hD
      obtain ⟨d_8, hd_8⟩ : ∃ z : Nat → Nat, z = (fun j => if j = ic_2 then nb_4 else br j) := ⟨_, rfl⟩
      rw [← hd_8] at hP hD
      have hbb_8 : ∀ j, d_8 j ≤ 24 := by rw [hd_8]; exact up_le hbr (by omega)
      refine lv_iload_n hx hb dX7_steer_46 rfl (lv_at hl 0 rfl) ?_
      obtain ⟨hP9, hD9⟩ := pd_sub [((a 0), .inr (7, (fX7 (a 1) (a 3) (a 19) (a 35) (a 40) (nI rk) lfa (a 53) (a 56) (a 63) (a 64) (a 68)))), ((a 53), .inr (4, (fX4 (a 54) (a 55) (nI cc) (nI rz) ro sd))), (aI k (a 54) 4 wk), (aI k (a 55) 4 (nF d_8))] [0, 1, 2, 3] hP hD (by decide) rfl
      exact W.iret (v := (nI (br ic_2))) hx hb hr (fun t ht hW => ⟨⟨(nI (br ic_2)), d_8, rfl, hbb_8, by rw [ht]; exact hP9, hD9⟩, hS.F ht⟩) hS.2.2 dX7_steer_47
    · refine lv_if_ne (tgt := 26) hx hb dX7_steer_19 (by decide) (fun h => absurd (by decide) h) (fun _ => ?_)
      refine lv_sipush (v := (-1002)) hx hb dX7_steer_22 (by decide) ?_
      obtain ⟨hP9, hD9⟩ := pd_sub [((a 0), .inr (7, (fX7 (a 1) (a 3) (a 19) (a 35) (a 40) (nI rk) lfa (a 53) (a 56) (a 63) (a 64) (a 68)))), ((a 53), .inr (4, (fX4 (a 54) (a 55) (nI cc) (nI rz) ro sd))), (aI k (a 54) 4 wk), (aI k (a 55) 4 (nF br))] [0, 1, 2, 3] hP hD (by decide) rfl
      exact W.iret (v := (-1002)) hx hb hr (fun t ht hW => ⟨⟨(-1002), br, rfl, hbr, by rw [ht]; exact hP9, hD9⟩, hS.F ht⟩) hS.2.2 dX7_steer_25
  · refine lv_if_ne (tgt := 12) hx hb dX7_steer_5 (by decide) (fun h => absurd (by decide) h) (fun _ => ?_)
    refine lv_sipush (v := (-1001)) hx hb dX7_steer_8 (by decide) ?_
    obtain ⟨hP9, hD9⟩ := pd_sub [((a 0), .inr (7, (fX7 (a 1) (a 3) (a 19) (a 35) (a 40) (nI rk) lfa (a 53) (a 56) (a 63) (a 64) (a 68)))), ((a 53), .inr (4, (fX4 (a 54) (a 55) (nI cc) (nI rz) ro sd))), (aI k (a 54) 4 wk), (aI k (a 55) 4 (nF br))] [0, 1, 2, 3] hP hD (by decide) rfl
    exact W.iret (v := (-1001)) hx hb hr (fun t ht hW => ⟨⟨(-1001), br, rfl, hbr, by rw [ht]; exact hP9, hD9⟩, hS.F ht⟩) hS.2.2 dX7_steer_11

theorem dX7_parks_0 : decode cX7_parks 0 = .ok (.aload_n 0, 1) := by decide +kernel
theorem dX7_parks_1 : decode cX7_parks 1 = .ok (.iload_n 1, 1) := by decide +kernel
theorem dX7_parks_2 : decode cX7_parks 2 = .ok (.invokevirtual 108, 3) := by decide +kernel
theorem dX7_parks_5 : decode cX7_parks 5 = .ok (.ifCond .eq 11, 3) := by decide +kernel
theorem dX7_parks_8 : decode cX7_parks 8 = .ok (.aload_n 0, 1) := by decide +kernel
theorem dX7_parks_9 : decode cX7_parks 9 = .ok (.iload_n 3, 1) := by decide +kernel
theorem dX7_parks_10 : decode cX7_parks 10 = .ok (.invokevirtual 220, 3) := by decide +kernel
theorem dX7_parks_13 : decode cX7_parks 13 = .ok (.ifCond .ne 7, 3) := by decide +kernel
theorem dX7_parks_16 : decode cX7_parks 16 = .ok (.sipush (-1001), 3) := by decide +kernel
theorem dX7_parks_19 : decode cX7_parks 19 = .ok (.ireturn, 1) := by decide +kernel
theorem dX7_parks_20 : decode cX7_parks 20 = .ok (.aload_n 0, 1) := by decide +kernel
theorem dX7_parks_21 : decode cX7_parks 21 = .ok (.iload_n 1, 1) := by decide +kernel
theorem dX7_parks_22 : decode cX7_parks 22 = .ok (.iload_n 2, 1) := by decide +kernel
theorem dX7_parks_23 : decode cX7_parks 23 = .ok (.invokevirtual 226, 3) := by decide +kernel
theorem dX7_parks_26 : decode cX7_parks 26 = .ok (.ifCond .eq 13, 3) := by decide +kernel
theorem dX7_parks_29 : decode cX7_parks 29 = .ok (.iload 4, 2) := by decide +kernel
theorem dX7_parks_31 : decode cX7_parks 31 = .ok (.iconst 0, 1) := by decide +kernel
theorem dX7_parks_32 : decode cX7_parks 32 = .ok (.iconst 1, 1) := by decide +kernel
theorem dX7_parks_33 : decode cX7_parks 33 = .ok (.invokestatic 112, 3) := by decide +kernel
theorem dX7_parks_36 : decode cX7_parks 36 = .ok (.ifCond .ne 7, 3) := by decide +kernel
theorem dX7_parks_39 : decode cX7_parks 39 = .ok (.sipush (-1002), 3) := by decide +kernel
theorem dX7_parks_42 : decode cX7_parks 42 = .ok (.ireturn, 1) := by decide +kernel
theorem dX7_parks_43 : decode cX7_parks 43 = .ok (.aload_n 0, 1) := by decide +kernel
theorem dX7_parks_44 : decode cX7_parks 44 = .ok (.getfield 73, 3) := by decide +kernel
theorem dX7_parks_47 : decode cX7_parks 47 = .ok (.aload_n 0, 1) := by decide +kernel
theorem dX7_parks_48 : decode cX7_parks 48 = .ok (.getfield 18, 3) := by decide +kernel
theorem dX7_parks_51 : decode cX7_parks 51 = .ok (.iload_n 1, 1) := by decide +kernel
theorem dX7_parks_52 : decode cX7_parks 52 = .ok (.aaload, 1) := by decide +kernel
theorem dX7_parks_53 : decode cX7_parks 53 = .ok (.iload_n 2, 1) := by decide +kernel
theorem dX7_parks_54 : decode cX7_parks 54 = .ok (.invokevirtual 229, 3) := by decide +kernel
theorem dX7_parks_57 : decode cX7_parks 57 = .ok (.aload_n 0, 1) := by decide +kernel
theorem dX7_parks_58 : decode cX7_parks 58 = .ok (.getfield 73, 3) := by decide +kernel
theorem dX7_parks_61 : decode cX7_parks 61 = .ok (.iload_n 3, 1) := by decide +kernel
theorem dX7_parks_62 : decode cX7_parks 62 = .ok (.invokevirtual 233, 3) := by decide +kernel
theorem dX7_parks_65 : decode cX7_parks 65 = .ok (.istore 5, 2) := by decide +kernel
theorem dX7_parks_67 : decode cX7_parks 67 = .ok (.iload 4, 2) := by decide +kernel
theorem dX7_parks_69 : decode cX7_parks 69 = .ok (.iconst 1, 1) := by decide +kernel
theorem dX7_parks_70 : decode cX7_parks 70 = .ok (.if_icmp .ne 14, 3) := by decide +kernel
theorem dX7_parks_73 : decode cX7_parks 73 = .ok (.aload_n 0, 1) := by decide +kernel
theorem dX7_parks_74 : decode cX7_parks 74 = .ok (.getfield 73, 3) := by decide +kernel
theorem dX7_parks_77 : decode cX7_parks 77 = .ok (.iload_n 3, 1) := by decide +kernel
theorem dX7_parks_78 : decode cX7_parks 78 = .ok (.iload 5, 2) := by decide +kernel
theorem dX7_parks_80 : decode cX7_parks 80 = .ok (.invokevirtual 236, 3) := by decide +kernel
theorem dX7_parks_83 : decode cX7_parks 83 = .ok (.ireturn, 1) := by decide +kernel
theorem dX7_parks_84 : decode cX7_parks 84 = .ok (.iload 5, 2) := by decide +kernel
theorem dX7_parks_86 : decode cX7_parks 86 = .ok (.aload_n 0, 1) := by decide +kernel
theorem dX7_parks_87 : decode cX7_parks 87 = .ok (.getfield 18, 3) := by decide +kernel
theorem dX7_parks_90 : decode cX7_parks 90 = .ok (.iload_n 1, 1) := by decide +kernel
theorem dX7_parks_91 : decode cX7_parks 91 = .ok (.aaload, 1) := by decide +kernel
theorem dX7_parks_92 : decode cX7_parks 92 = .ok (.invokevirtual 105, 3) := by decide +kernel
theorem dX7_parks_95 : decode cX7_parks 95 = .ok (.if_icmp .ge 8, 3) := by decide +kernel
theorem dX7_parks_98 : decode cX7_parks 98 = .ok (.iload 5, 2) := by decide +kernel
theorem dX7_parks_100 : decode cX7_parks 100 = .ok (.goto 4, 3) := by decide +kernel
theorem dX7_parks_103 : decode cX7_parks 103 = .ok (.iconst (-1), 1) := by decide +kernel
theorem dX7_parks_104 : decode cX7_parks 104 = .ok (.ireturn, 1) := by decide +kernel
set_option maxHeartbeats 4000000 in
set_option maxRecDepth 100000 in
theorem x_parks (l : Launch) (D : va_G) (k : Nat → ClassId) (st : Nat → Nat) (lo : Nat) (a : Nat → Nat) (rk : Nat) (lfa : Int32) (n0 : Nat) (see0 : Nat) (tm0 : Nat) (g0 : Nat → Int32) (fp0 : Nat → Int32) (fl0 : Nat → Int32) (n1 : Nat) (see1 : Nat) (tm1 : Nat) (g1 : Nat → Int32) (fp1 : Nat → Int32) (fl1 : Nat → Int32) (n2 : Nat) (see2 : Nat) (tm2 : Nat) (g2 : Nat → Int32) (fp2 : Nat → Int32) (fl2 : Nat → Int32) (cc : Nat) (rz : Nat) (ro : Int32) (sd : Int32) (wk : Nat → Int32) (br : Nat → Nat) (pn : Int32) (pf : Int32) (pd : Int32) (pe : Int32) (pb : Nat → Nat) (pco : Nat → Int32) (pg : Nat → Int32) (p0 : Int32) (p1 : Int32) (p2 : Int32) (p3 : Int32) (hn0 : n0 ≤ 24) (hse0 : see0 ≤ 2) (htm0 : tm0 ≤ 3) (hn1 : n1 ≤ 24) (hse1 : see1 ≤ 2) (htm1 : tm1 ≤ 3) (hn2 : n2 ≤ 24) (hse2 : see2 ≤ 2) (htm2 : tm2 ≤ 3) (hcc : cc ≤ 4) (hbr : ∀ j, br j ≤ 24) (hpb : ∀ j, pb j ≤ 24) : CWi l D k st lo yX7_parks cX7_parks 6 (some .int) ({ frames := 3, cells := 0, slots := 0, locals := 84 }) 0 0 [.ref (a 0), .int p0, .int p1, .int p2, .int p3] [((a 0), .inr (7, (fX7 (a 1) (a 3) (a 19) (a 35) (a 40) (nI rk) lfa (a 53) (a 56) (a 63) (a 64) (a 68)))), ((a 3), .inl (k 3, 3, .inr (.inr (.inr (.inr (a3 (a 4) (a 9) (a 14))))))), ((a 4), .inr (5, (fX5 (a 5) (a 6) (a 7) (a 8)))), (aI k (a 5) 10 (vv n0 see0 tm0 g0)), (aI k (a 7) 24 fp0), (aI k (a 8) 4 fl0), ((a 9), .inr (5, (fX5 (a 10) (a 11) (a 12) (a 13)))), (aI k (a 10) 10 (vv n1 see1 tm1 g1)), (aI k (a 12) 24 fp1), (aI k (a 13) 4 fl1), ((a 14), .inr (5, (fX5 (a 15) (a 16) (a 17) (a 18)))), (aI k (a 15) 10 (vv n2 see2 tm2 g2)), (aI k (a 17) 24 fp2), (aI k (a 18) 4 fl2), ((a 53), .inr (4, (fX4 (a 54) (a 55) (nI cc) (nI rz) ro sd))), (aI k (a 54) 4 wk), (aI k (a 55) 4 (nF br)), ((a 68), .inr (1, (fX1 (a 53) (a 69) (a 70) (a 71) pn pf pd pe))), (aI k (a 69) 4 (nF pb)), (aI k (a 70) 100 pco), (aI k (a 71) 16 pg)] (fun (r : Int32) (u : Int32 × Int32 × Int32 × Int32 × (Nat → Nat) × (Nat → Int32)) => match u with | (pn_, pf_, pd_, pe_, pb_, pco_) => ∀ j, pb_ j ≤ 24) (fun (u : Int32 × Int32 × Int32 × Int32 × (Nat → Nat) × (Nat → Int32)) => match u with | (pn_, pf_, pd_, pe_, pb_, pco_) => [((a 0), .inr (7, (fX7 (a 1) (a 3) (a 19) (a 35) (a 40) (nI rk) lfa (a 53) (a 56) (a 63) (a 64) (a 68)))), ((a 3), .inl (k 3, 3, .inr (.inr (.inr (.inr (a3 (a 4) (a 9) (a 14))))))), ((a 4), .inr (5, (fX5 (a 5) (a 6) (a 7) (a 8)))), (aI k (a 5) 10 (vv n0 see0 tm0 g0)), (aI k (a 7) 24 fp0), (aI k (a 8) 4 fl0), ((a 9), .inr (5, (fX5 (a 10) (a 11) (a 12) (a 13)))), (aI k (a 10) 10 (vv n1 see1 tm1 g1)), (aI k (a 12) 24 fp1), (aI k (a 13) 4 fl1), ((a 14), .inr (5, (fX5 (a 15) (a 16) (a 17) (a 18)))), (aI k (a 15) 10 (vv n2 see2 tm2 g2)), (aI k (a 17) 24 fp2), (aI k (a 18) 4 fl2), ((a 53), .inr (4, (fX4 (a 54) (a 55) (nI cc) (nI rz) ro sd))), (aI k (a 54) 4 wk), (aI k (a 55) 4 (nF br)), ((a 68), .inr (1, (fX1 (a 53) (a 69) (a 70) (a 71) pn_ pf_ pd_ pe_))), (aI k (a 69) 4 (nF pb_)), (aI k (a 70) 100 pco_), (aI k (a 71) 16 pg)]) := by
  intro sz
  refine Met.ofW (cc := cX7_parks) (maxL := 6) (ret := (some .int)) (by decide) rfl ?_
  intro p e s m args below meth c s₁ B hml hv
  obtain ⟨rfl, hsz, hlo, hP, hK, hDL, hZ⟩ := hv
  have hx := B.exec
  have hb := B.bytes
  have hr := B.returns
  have hts := WS_ts B.pre
  have hown : s.vm.findClass RX7 = some m.cls := findClass_of_methodNamed B.named
  have hlocks := B.notSynchronized
  subst hsz
  have hD := hDL.self (sz := s.heap.size)
  have hAlo := A_lo hDL hlo
  generalize hAe : va_A [((a 0), .inr (7, (fX7 (a 1) (a 3) (a 19) (a 35) (a 40) (nI rk) lfa (a 53) (a 56) (a 63) (a 64) (a 68)))), ((a 3), .inl (k 3, 3, .inr (.inr (.inr (.inr (a3 (a 4) (a 9) (a 14))))))), ((a 4), .inr (5, (fX5 (a 5) (a 6) (a 7) (a 8)))), (aI k (a 5) 10 (vv n0 see0 tm0 g0)), (aI k (a 7) 24 fp0), (aI k (a 8) 4 fl0), ((a 9), .inr (5, (fX5 (a 10) (a 11) (a 12) (a 13)))), (aI k (a 10) 10 (vv n1 see1 tm1 g1)), (aI k (a 12) 24 fp1), (aI k (a 13) 4 fl1), ((a 14), .inr (5, (fX5 (a 15) (a 16) (a 17) (a 18)))), (aI k (a 15) 10 (vv n2 see2 tm2 g2)), (aI k (a 17) 24 fp2), (aI k (a 18) 4 fl2), ((a 53), .inr (4, (fX4 (a 54) (a 55) (nI cc) (nI rz) ro sd))), (aI k (a 54) 4 wk), (aI k (a 55) 4 (nF br)), ((a 68), .inr (1, (fX1 (a 53) (a 69) (a 70) (a 71) pn pf pd pe))), (aI k (a 69) 4 (nF pb)), (aI k (a 70) 100 pco), (aI k (a 71) 16 pg)] s.heap.size = A at hD hAlo ⊢
  have hA : ∀ q : Nat, s.heap.size ≤ q → A q := fun q h => by rw [← hAe]; exact Or.inr h
  have hS : va_S A s.heap s.heap [] := va_S.rf
  have hl := lv_entry ([.ref (a 0), .int p0, .int p1, .int p2, .int p3]) (n := 6) (Nat.le_of_ble_eq_true rfl)
  rw [lg_entry_eq]
  generalize (lg_sl ([.ref (a 0), .int p0, .int p1, .int p2, .int p3]) ++ List.replicate (6 - (lg_sl ([.ref (a 0), .int p0, .int p1, .int p2, .int p3])).length) Slot.unset).toArray = ls at hl ⊢
  have hl : lv_has ls 6 [(0, .ref (a 0)), (1, .int p0), (2, .int p1), (3, .int p2), (4, .int p3)] := hl
  refine lv_aload_n hx hb dX7_parks_0 rfl (lv_at hl 0 rfl) ?_
  refine lv_iload_n hx hb dX7_parks_1 rfl (lv_at hl 1 rfl) ?_
  refine ro_i (D := D) (va_runV (As := [.int p0]) (rest := []) ⟨hx, hb, hml, hown, hts⟩ ((x_isStreet l D k st lo a rk lfa n0 see0 tm0 g0 n1 see1 tm1 g1 n2 see2 tm2 g2 p0 (by first | assumption | omega) (by first | assumption | omega) (by first | assumption | omega)) s.heap.size) (cwV 1 hts (gV tw_589 tw_591 tw_8 tw_79 tw_592) rfl rfl rfl (by decide +kernel) ⟨Nat.le_of_ble_eq_true rfl, Nat.le_of_ble_eq_true rfl⟩) (pV hS hAlo hlo hP hK (va_Dlo hD hAlo) hZ [0, 1, 2, 3, 6, 7, 10, 11] (by decide) rfl (ci := 7) (q := (RX7, TX7, 12)) (q0 := 0) rfl rfl) rfl rfl hl.1 rfl (lv_room (Nat.le_of_ble_eq_true rfl)) dX7_parks_2 ⟨Nat.le_of_ble_eq_true rfl, Nat.le_of_ble_eq_true rfl⟩) hS hA hP (fun r_1 H locs hw_1 hP hS => ?_)
  try dsimp only at hw_1
  rcases hw_1 with ⟨rfl, ⟨rfl, hw_1⟩ | ⟨rfl, hw_1⟩ | ⟨rfl, hw_1⟩⟩ | rfl
  · refine lv_if_eq (tgt := 16) hx hb dX7_parks_5 (by decide) (fun h => absurd h (by decide)) (fun _ => ?_)
    refine lv_aload_n hx hb dX7_parks_8 rfl (lv_at hl 0 rfl) ?_
    refine lv_iload_n hx hb dX7_parks_9 rfl (lv_at hl 3 rfl) ?_
    refine ro_i (D := D) (va_runV (As := [.int p2]) (rest := []) ⟨hx, hb, hml, hown, hts⟩ ((x_isCar l D k st lo a rk lfa cc rz ro sd p2 (by first | assumption | omega)) H.size) (cwV 1 hts (gV tw_809 tw_811 tw_17 tw_79 tw_812) rfl rfl rfl (by decide +kernel) ⟨Nat.le_of_ble_eq_true rfl, Nat.le_of_ble_eq_true rfl⟩) (pV hS hAlo hlo hP hK (va_Dlo hD hAlo) hZ [0, 14] (by decide) rfl (ci := 7) (q := (RX7, TX7, 12)) (q0 := 0) rfl rfl) rfl rfl hl.1 rfl (lv_room (Nat.le_of_ble_eq_true rfl)) dX7_parks_10 ⟨Nat.le_of_ble_eq_true rfl, Nat.le_of_ble_eq_true rfl⟩) hS hA hP (fun r_2 H locs hw_2 hP hS => ?_)
    try dsimp only at hw_2
    rcases hw_2 with ⟨rfl, ic_3, hic_3, rfl⟩ | rfl
    · refine lv_if_ne (tgt := 20) hx hb dX7_parks_13 (by decide) (fun _ => ?_) (fun h => absurd h (by decide))
      refine lv_aload_n hx hb dX7_parks_20 rfl (lv_at hl 0 rfl) ?_
      refine lv_iload_n hx hb dX7_parks_21 rfl (lv_at hl 1 rfl) ?_
      refine lv_iload_n hx hb dX7_parks_22 rfl (lv_at hl 2 rfl) ?_
      refine ro_i (D := D) (va_runV (As := [.int 0, .int p1]) (rest := []) ⟨hx, hb, hml, hown, hts⟩ ((x_isSet_0 l D k st lo a rk lfa n0 see0 tm0 g0 p1) H.size) (cwV 2 hts (gV tw_817 tw_819 tw_18 tw_79 tw_820) rfl rfl rfl (by decide +kernel) ⟨Nat.le_of_ble_eq_true rfl, Nat.le_of_ble_eq_true rfl⟩) (pV hS hAlo hlo hP hK (va_Dlo hD hAlo) hZ [0, 1, 2, 3] (by decide) rfl (ci := 7) (q := (RX7, TX7, 12)) (q0 := 0) rfl rfl) rfl rfl hl.1 rfl (lv_room (Nat.le_of_ble_eq_true rfl)) dX7_parks_23 ⟨Nat.le_of_ble_eq_true rfl, Nat.le_of_ble_eq_true rfl⟩) hS hA hP (fun r_4 H locs hw_4 hP hS => ?_)
      try dsimp only at hw_4
      rcases hw_4 with rfl | rfl
      · refine lv_if_eq (tgt := 39) hx hb dX7_parks_26 (by decide) (fun h => absurd h (by decide)) (fun _ => ?_)
        refine lv_iload hx hb dX7_parks_29 (lv_at hl 4 rfl) ?_
        refine lv_iconst (v := 0) hx hb dX7_parks_31 (by decide) ?_
        refine lv_iconst (v := 1) hx hb dX7_parks_32 (by decide) ?_
        refine ro_i (D := D) (va_runS (As := [.int p3, .int 0, .int 1]) (rest := []) ⟨hx, hb, hml, hown, hts⟩ ((k_isIn l D k st lo p3 0 1) H.size) (va_cwS 3 hts (gS tw_593 tw_594 tw_79 tw_595) rfl rfl rfl (by decide +kernel) ⟨Nat.le_of_ble_eq_true rfl, Nat.le_of_ble_eq_true rfl⟩) (pS hS hAlo hlo hP hK (va_Dlo hD hAlo) hZ [] (by decide) rfl) rfl rfl hl.1 rfl (lv_room (Nat.le_of_ble_eq_true rfl)) dX7_parks_33 ⟨Nat.le_of_ble_eq_true rfl, Nat.le_of_ble_eq_true rfl⟩) hS hA hP (fun r_5 H locs hw_5 hP hS => ?_)
        try dsimp only at hw_5
        rcases hw_5 with ⟨rfl, hw_5⟩ | ⟨rfl, hw_5⟩
        · refine lv_if_ne (tgt := 43) hx hb dX7_parks_36 (by decide) (fun _ => ?_) (fun h => absurd h (by decide))
          refine lv_aload_n hx hb dX7_parks_43 rfl (lv_at hl 0 rfl) ?_
          refine va_get (D := D) (ci := 7) (v := .ref (a 68)) (C := RX7) (T := TX7) (N := 12) hx hb hts inX7 hown hK hP 0 rfl rfl 11 (by decide) (hts _ tw_316) (fun _ h9 => h9) rfl dX7_parks_44 ?_
          refine lv_aload_n hx hb dX7_parks_47 rfl (lv_at hl 0 rfl) ?_
          refine va_get (D := D) (ci := 7) (v := .ref (a 3)) (C := RX7) (T := TX7) (N := 12) hx hb hts inX7 hown hK hP 0 rfl rfl 1 (by decide) (hts _ tw_306) (fun _ h9 => h9) rfl dX7_parks_48 ?_
          refine lv_iload_n hx hb dX7_parks_51 rfl (lv_at hl 1 rfl) ?_
          refine va_aldq hx hb hK hP 1 3 rfl rfl (by unfold vp_in; decide) dX7_parks_52 ?_
          refine lv_tr (y := .ref (a 4)) rfl ?_
          refine lv_iload_n hx hb dX7_parks_53 rfl (lv_at hl 2 rfl) ?_
          refine rw_v (D := D) (wr := [((a 0), .inr (7, (fX7 (a 1) (a 3) (a 19) (a 35) (a 40) (nI rk) lfa (a 53) (a 56) (a 63) (a 64) (a 68)))), ((a 3), .inl (k 3, 3, .inr (.inr (.inr (.inr (a3 (a 4) (a 9) (a 14))))))), ((a 9), .inr (5, (fX5 (a 10) (a 11) (a 12) (a 13)))), (aI k (a 10) 10 (vv n1 see1 tm1 g1)), (aI k (a 12) 24 fp1), (aI k (a 13) 4 fl1), ((a 14), .inr (5, (fX5 (a 15) (a 16) (a 17) (a 18)))), (aI k (a 15) 10 (vv n2 see2 tm2 g2)), (aI k (a 17) 24 fp2), (aI k (a 18) 4 fl2), (aI k (a 71) 16 pg)]) (va_runV (As := [.ref (a 4), .int p1]) (rest := []) ⟨hx, hb, hml, hown, hts⟩ ((x_comeTo l D k st lo (a 53) (a 68) (a 69) (a 70) (a 71) pn pf pd pe pb pco (a 4) (a 5) (a 6) (a 7) (a 8) n0 see0 tm0 g0 fp0 fl0 (a 54) (a 55) cc rz ro sd wk br p1 (by first | assumption | omega) (by first | assumption | omega) hbr hpb) H.size) (cwV 2 hts (gV tw_821 tw_822 tw_823 tw_84 tw_824) rfl rfl rfl (by decide +kernel) ⟨Nat.le_of_ble_eq_true rfl, Nat.le_of_ble_eq_true rfl⟩) (pV hS hAlo hlo hP hK (va_Dlo hD hAlo) hZ [17, 18, 19, 2, 3, 4, 5, 14, 15, 16] (by decide +kernel) rfl (ci := 1) (q := (RX1, TX1, 8)) (q0 := 0) rfl rfl) rfl rfl hl.1 rfl (lv_room (Nat.le_of_ble_eq_true rfl)) dX7_parks_54 ⟨Nat.le_of_ble_eq_true rfl, Nat.le_of_ble_eq_true rfl⟩) hS hA hP hD [17, 18, 19, 2, 3, 4, 5, 14, 15, 16] [0, 1, 6, 7, 8, 9, 10, 11, 12, 13, 20] rfl rfl (by decide +kernel) (by decide +kernel) (fun u H locs hw_6 hP hD hS => ?_)
          obtain ⟨pb__6, pco__6⟩ := u
          have hQ9 := pd_mk [((a 0), .inr (7, (fX7 (a 1) (a 3) (a 19) (a 35) (a 40) (nI rk) lfa (a 53) (a 56) (a 63) (a 64) (a 68)))), ((a 3), .inl (k 3, 3, .inr (.inr (.inr (.inr (a3 (a 4) (a 9) (a 14))))))), ((a 9), .inr (5, (fX5 (a 10) (a 11) (a 12) (a 13)))), (aI k (a 10) 10 (vv n1 see1 tm1 g1)), (aI k (a 12) 24 fp1), (aI k (a 13) 4 fl1), ((a 14), .inr (5, (fX5 (a 15) (a 16) (a 17) (a 18)))), (aI k (a 15) 10 (vv n2 see2 tm2 g2)), (aI k (a 17) 24 fp2), (aI k (a 18) 4 fl2), (aI k (a 71) 16 pg), ((a 68), .inr (1, (fX1 (a 53) (a 69) (a 70) (a 71) (nI n0) p1 0 0))), (aI k (a 69) 4 (nF pb__6)), (aI k (a 70) 100 pco__6), ((a 4), .inr (5, (fX5 (a 5) (a 6) (a 7) (a 8)))), (aI k (a 5) 10 (vv n0 see0 tm0 g0)), (aI k (a 7) 24 fp0), (aI k (a 8) 4 fl0), ((a 53), .inr (4, (fX4 (a 54) (a 55) (nI cc) (nI rz) ro sd))), (aI k (a 54) 4 wk), (aI k (a 55) 4 (nF br))] hP hD
          clear hP hD
          obtain ⟨hP, hD⟩ := hQ9
          try dsimp only at hw_6
          refine lv_aload_n hx hb dX7_parks_57 rfl (lv_at hl 0 rfl) ?_
          refine va_get (D := D) (ci := 7) (v := .ref (a 68)) (C := RX7) (T := TX7) (N := 12) hx hb hts inX7 hown hK hP 0 rfl rfl 11 (by decide) (hts _ tw_316) (fun _ h9 => h9) rfl dX7_parks_58 ?_
          refine lv_iload_n hx hb dX7_parks_61 rfl (lv_at hl 3 rfl) ?_
          refine ro_i (D := D) (va_runV (As := [.int (nI ic_3)]) (rest := []) ⟨hx, hb, hml, hown, hts⟩ ((x_placeOf l D k st lo (a 53) (a 68) (a 69) (a 70) (a 71) n0 p1 0 0 pb__6 ic_3 (by first | assumption | omega) (by first | assumption | omega) hw_6) H.size) (cwV 1 hts (gV tw_830 tw_831 tw_832 tw_84 tw_833) rfl rfl rfl (by decide +kernel) ⟨Nat.le_of_ble_eq_true rfl, Nat.le_of_ble_eq_true rfl⟩) (pV hS hAlo hlo hP hK (va_Dlo hD hAlo) hZ [11, 12] (by decide) rfl (ci := 1) (q := (RX1, TX1, 8)) (q0 := 0) rfl rfl) rfl rfl hl.1 rfl (lv_room (Nat.le_of_ble_eq_true rfl)) dX7_parks_62 ⟨Nat.le_of_ble_eq_true rfl, Nat.le_of_ble_eq_true rfl⟩) hS hA hP (fun r_7 H locs hw_7 hP hS => ?_)
          try dsimp only at hw_7
          obtain ⟨zp_8, hzp_8, rfl⟩ := hw_7
          refine lv_istore (lv' := [(5, .int (nI zp_8)), (0, .ref (a 0)), (1, .int 0), (2, .int p1), (3, .int (nI ic_3)), (4, .int p3)]) hx hb dX7_parks_65 hl (by decide) rfl (fun ls hl => ?_)
          refine lv_iload hx hb dX7_parks_67 (lv_at hl 5 rfl) ?_
          refine lv_iconst (v := 1) hx hb dX7_parks_69 (by decide) ?_
          refine lv_icmp_ne (tgt := 84) hx hb dX7_parks_70 (by decide) (fun c_9 => ?_) (fun c_9 => ?_)
          · refine lv_iload hx hb dX7_parks_84 (lv_at hl 0 rfl) ?_
            refine lv_aload_n hx hb dX7_parks_86 rfl (lv_at hl 1 rfl) ?_
            refine va_get (D := D) (ci := 7) (v := .ref (a 3)) (C := RX7) (T := TX7) (N := 12) hx hb hts inX7 hown hK hP 0 rfl rfl 1 (by decide) (hts _ tw_306) (fun _ h9 => h9) rfl dX7_parks_87 ?_
            refine lv_iload_n hx hb dX7_parks_90 rfl (lv_at hl 2 rfl) ?_
            refine va_aldq hx hb hK hP 1 3 rfl rfl (by unfold vp_in; decide) dX7_parks_91 ?_
            refine lv_tr (y := .ref (a 4)) rfl ?_
            refine ro_i (D := D) (va_runV (As := []) (rest := [.int (nI zp_8)]) ⟨hx, hb, hml, hown, hts⟩ ((x_doors l D k st lo (a 4) (a 5) (a 6) (a 7) (a 8) n0 see0 tm0 g0) H.size) (cwV 0 hts (gV tw_580 tw_478 tw_479 tw_81 tw_480) rfl rfl rfl (by decide +kernel) ⟨Nat.le_of_ble_eq_true rfl, Nat.le_of_ble_eq_true rfl⟩) (pV hS hAlo hlo hP hK (va_Dlo hD hAlo) hZ [14, 15] (by decide) rfl (ci := 5) (q := (RX5, TX5, 4)) (q0 := 0) rfl rfl) rfl rfl hl.1 rfl (lv_room (Nat.le_of_ble_eq_true rfl)) dX7_parks_92 ⟨Nat.le_of_ble_eq_true rfl, Nat.le_of_ble_eq_true rfl⟩) hS hA hP (fun r_10 H locs hw_10 hP hS => ?_)
            try dsimp only at hw_10
            subst hw_10
            refine lv_icmp_ge (tgt := 103) hx hb dX7_parks_95 (by decide) (fun c_11 => ?_) (fun c_11 => ?_)
            · have c_11 := (nI_leI (a := n0) (b := zp_8) (by omega) (by omega)).mp c_11
              refine lv_iconst (v := (-1)) hx hb dX7_parks_103 (by decide) ?_
              obtain ⟨hP9, hD9⟩ := pd_sub [((a 0), .inr (7, (fX7 (a 1) (a 3) (a 19) (a 35) (a 40) (nI rk) lfa (a 53) (a 56) (a 63) (a 64) (a 68)))), ((a 3), .inl (k 3, 3, .inr (.inr (.inr (.inr (a3 (a 4) (a 9) (a 14))))))), ((a 4), .inr (5, (fX5 (a 5) (a 6) (a 7) (a 8)))), (aI k (a 5) 10 (vv n0 see0 tm0 g0)), (aI k (a 7) 24 fp0), (aI k (a 8) 4 fl0), ((a 9), .inr (5, (fX5 (a 10) (a 11) (a 12) (a 13)))), (aI k (a 10) 10 (vv n1 see1 tm1 g1)), (aI k (a 12) 24 fp1), (aI k (a 13) 4 fl1), ((a 14), .inr (5, (fX5 (a 15) (a 16) (a 17) (a 18)))), (aI k (a 15) 10 (vv n2 see2 tm2 g2)), (aI k (a 17) 24 fp2), (aI k (a 18) 4 fl2), ((a 53), .inr (4, (fX4 (a 54) (a 55) (nI cc) (nI rz) ro sd))), (aI k (a 54) 4 wk), (aI k (a 55) 4 (nF br)), ((a 68), .inr (1, (fX1 (a 53) (a 69) (a 70) (a 71) (nI n0) p1 0 0))), (aI k (a 69) 4 (nF pb__6)), (aI k (a 70) 100 pco__6), (aI k (a 71) 16 pg)] [0, 1, 14, 15, 16, 17, 2, 3, 4, 5, 6, 7, 8, 9, 18, 19, 20, 11, 12, 13, 10] hP hD (by decide +kernel) rfl
              exact W.iret (v := (-1)) hx hb hr (fun t ht hW => ⟨⟨(-1), ((nI n0), p1, 0, 0, pb__6, pco__6), rfl, hw_6, by rw [ht]; exact hP9, hD9⟩, hS.F ht⟩) hS.2.2 dX7_parks_104
            · have c_11 : ¬ (n0 ≤ zp_8) := fun h => c_11 ((nI_leI (a := n0) (b := zp_8) (by omega) (by omega)).mpr h)
              refine lv_iload hx hb dX7_parks_98 (lv_at hl 0 rfl) ?_
              refine lv_goto (tgt := 104) hx hb dX7_parks_100 (by decide) ?_
              obtain ⟨hP9, hD9⟩ := pd_sub [((a 0), .inr (7, (fX7 (a 1) (a 3) (a 19) (a 35) (a 40) (nI rk) lfa (a 53) (a 56) (a 63) (a 64) (a 68)))), ((a 3), .inl (k 3, 3, .inr (.inr (.inr (.inr (a3 (a 4) (a 9) (a 14))))))), ((a 4), .inr (5, (fX5 (a 5) (a 6) (a 7) (a 8)))), (aI k (a 5) 10 (vv n0 see0 tm0 g0)), (aI k (a 7) 24 fp0), (aI k (a 8) 4 fl0), ((a 9), .inr (5, (fX5 (a 10) (a 11) (a 12) (a 13)))), (aI k (a 10) 10 (vv n1 see1 tm1 g1)), (aI k (a 12) 24 fp1), (aI k (a 13) 4 fl1), ((a 14), .inr (5, (fX5 (a 15) (a 16) (a 17) (a 18)))), (aI k (a 15) 10 (vv n2 see2 tm2 g2)), (aI k (a 17) 24 fp2), (aI k (a 18) 4 fl2), ((a 53), .inr (4, (fX4 (a 54) (a 55) (nI cc) (nI rz) ro sd))), (aI k (a 54) 4 wk), (aI k (a 55) 4 (nF br)), ((a 68), .inr (1, (fX1 (a 53) (a 69) (a 70) (a 71) (nI n0) p1 0 0))), (aI k (a 69) 4 (nF pb__6)), (aI k (a 70) 100 pco__6), (aI k (a 71) 16 pg)] [0, 1, 14, 15, 16, 17, 2, 3, 4, 5, 6, 7, 8, 9, 18, 19, 20, 11, 12, 13, 10] hP hD (by decide +kernel) rfl
              exact W.iret (v := (nI zp_8)) hx hb hr (fun t ht hW => ⟨⟨(nI zp_8), ((nI n0), p1, 0, 0, pb__6, pco__6), rfl, hw_6, by rw [ht]; exact hP9, hD9⟩, hS.F ht⟩) hS.2.2 dX7_parks_104
          · refine lv_aload_n hx hb dX7_parks_73 rfl (lv_at hl 1 rfl) ?_
            refine va_get (D := D) (ci := 7) (v := .ref (a 68)) (C := RX7) (T := TX7) (N := 12) hx hb hts inX7 hown hK hP 0 rfl rfl 11 (by decide) (hts _ tw_316) (fun _ h9 => h9) rfl dX7_parks_74 ?_
            refine lv_iload_n hx hb dX7_parks_77 rfl (lv_at hl 4 rfl) ?_
            refine lv_iload hx hb dX7_parks_78 (lv_at hl 0 rfl) ?_
            refine ro_i (D := D) (va_runV (As := [.int (nI ic_3), .int (nI zp_8)]) (rest := []) ⟨hx, hb, hml, hown, hts⟩ ((x_costAt l D k st lo (a 53) (a 68) (a 69) (a 70) (a 71) n0 p1 0 0 pco__6 ic_3 zp_8 (by first | assumption | omega) (by first | assumption | omega)) H.size) (cwV 2 hts (gV tw_842 tw_843 tw_844 tw_84 tw_845) rfl rfl rfl (by decide +kernel) ⟨Nat.le_of_ble_eq_true rfl, Nat.le_of_ble_eq_true rfl⟩) (pV hS hAlo hlo hP hK (va_Dlo hD hAlo) hZ [11, 13] (by decide) rfl (ci := 1) (q := (RX1, TX1, 8)) (q0 := 0) rfl rfl) rfl rfl hl.1 rfl (lv_room (Nat.le_of_ble_eq_true rfl)) dX7_parks_80 ⟨Nat.le_of_ble_eq_true rfl, Nat.le_of_ble_eq_true rfl⟩) hS hA hP (fun r_12 H locs hw_12 hP hS => ?_)
            try dsimp only at hw_12
            obtain ⟨hP9, hD9⟩ := pd_sub [((a 0), .inr (7, (fX7 (a 1) (a 3) (a 19) (a 35) (a 40) (nI rk) lfa (a 53) (a 56) (a 63) (a 64) (a 68)))), ((a 3), .inl (k 3, 3, .inr (.inr (.inr (.inr (a3 (a 4) (a 9) (a 14))))))), ((a 4), .inr (5, (fX5 (a 5) (a 6) (a 7) (a 8)))), (aI k (a 5) 10 (vv n0 see0 tm0 g0)), (aI k (a 7) 24 fp0), (aI k (a 8) 4 fl0), ((a 9), .inr (5, (fX5 (a 10) (a 11) (a 12) (a 13)))), (aI k (a 10) 10 (vv n1 see1 tm1 g1)), (aI k (a 12) 24 fp1), (aI k (a 13) 4 fl1), ((a 14), .inr (5, (fX5 (a 15) (a 16) (a 17) (a 18)))), (aI k (a 15) 10 (vv n2 see2 tm2 g2)), (aI k (a 17) 24 fp2), (aI k (a 18) 4 fl2), ((a 53), .inr (4, (fX4 (a 54) (a 55) (nI cc) (nI rz) ro sd))), (aI k (a 54) 4 wk), (aI k (a 55) 4 (nF br)), ((a 68), .inr (1, (fX1 (a 53) (a 69) (a 70) (a 71) (nI n0) p1 0 0))), (aI k (a 69) 4 (nF pb__6)), (aI k (a 70) 100 pco__6), (aI k (a 71) 16 pg)] [0, 1, 14, 15, 16, 17, 2, 3, 4, 5, 6, 7, 8, 9, 18, 19, 20, 11, 12, 13, 10] hP hD (by decide +kernel) rfl
            exact W.iret (v := r_12) hx hb hr (fun t ht hW => ⟨⟨r_12, ((nI n0), p1, 0, 0, pb__6, pco__6), rfl, hw_6, by rw [ht]; exact hP9, hD9⟩, hS.F ht⟩) hS.2.2 dX7_parks_83
        · refine lv_if_ne (tgt := 43) hx hb dX7_parks_36 (by decide) (fun h => absurd (by decide) h) (fun _ => ?_)
          refine lv_sipush (v := (-1002)) hx hb dX7_parks_39 (by decide) ?_
          obtain ⟨hP9, hD9⟩ := pd_sub [((a 0), .inr (7, (fX7 (a 1) (a 3) (a 19) (a 35) (a 40) (nI rk) lfa (a 53) (a 56) (a 63) (a 64) (a 68)))), ((a 3), .inl (k 3, 3, .inr (.inr (.inr (.inr (a3 (a 4) (a 9) (a 14))))))), ((a 4), .inr (5, (fX5 (a 5) (a 6) (a 7) (a 8)))), (aI k (a 5) 10 (vv n0 see0 tm0 g0)), (aI k (a 7) 24 fp0), (aI k (a 8) 4 fl0), ((a 9), .inr (5, (fX5 (a 10) (a 11) (a 12) (a 13)))), (aI k (a 10) 10 (vv n1 see1 tm1 g1)), (aI k (a 12) 24 fp1), (aI k (a 13) 4 fl1), ((a 14), .inr (5, (fX5 (a 15) (a 16) (a 17) (a 18)))), (aI k (a 15) 10 (vv n2 see2 tm2 g2)), (aI k (a 17) 24 fp2), (aI k (a 18) 4 fl2), ((a 53), .inr (4, (fX4 (a 54) (a 55) (nI cc) (nI rz) ro sd))), (aI k (a 54) 4 wk), (aI k (a 55) 4 (nF br)), ((a 68), .inr (1, (fX1 (a 53) (a 69) (a 70) (a 71) pn pf pd pe))), (aI k (a 69) 4 (nF pb)), (aI k (a 70) 100 pco), (aI k (a 71) 16 pg)] [0, 1, 2, 3, 4, 5, 6, 7, 8, 9, 10, 11, 12, 13, 14, 15, 16, 17, 18, 19, 20] hP hD (by decide +kernel) rfl
          exact W.iret (v := (-1002)) hx hb hr (fun t ht hW => ⟨⟨(-1002), (pn, pf, pd, pe, pb, pco), rfl, hpb, by rw [ht]; exact hP9, hD9⟩, hS.F ht⟩) hS.2.2 dX7_parks_42
      · refine lv_if_eq (tgt := 39) hx hb dX7_parks_26 (by decide) (fun _ => ?_) (fun h => absurd (by decide) h)
        refine lv_sipush (v := (-1002)) hx hb dX7_parks_39 (by decide) ?_
        obtain ⟨hP9, hD9⟩ := pd_sub [((a 0), .inr (7, (fX7 (a 1) (a 3) (a 19) (a 35) (a 40) (nI rk) lfa (a 53) (a 56) (a 63) (a 64) (a 68)))), ((a 3), .inl (k 3, 3, .inr (.inr (.inr (.inr (a3 (a 4) (a 9) (a 14))))))), ((a 4), .inr (5, (fX5 (a 5) (a 6) (a 7) (a 8)))), (aI k (a 5) 10 (vv n0 see0 tm0 g0)), (aI k (a 7) 24 fp0), (aI k (a 8) 4 fl0), ((a 9), .inr (5, (fX5 (a 10) (a 11) (a 12) (a 13)))), (aI k (a 10) 10 (vv n1 see1 tm1 g1)), (aI k (a 12) 24 fp1), (aI k (a 13) 4 fl1), ((a 14), .inr (5, (fX5 (a 15) (a 16) (a 17) (a 18)))), (aI k (a 15) 10 (vv n2 see2 tm2 g2)), (aI k (a 17) 24 fp2), (aI k (a 18) 4 fl2), ((a 53), .inr (4, (fX4 (a 54) (a 55) (nI cc) (nI rz) ro sd))), (aI k (a 54) 4 wk), (aI k (a 55) 4 (nF br)), ((a 68), .inr (1, (fX1 (a 53) (a 69) (a 70) (a 71) pn pf pd pe))), (aI k (a 69) 4 (nF pb)), (aI k (a 70) 100 pco), (aI k (a 71) 16 pg)] [0, 1, 2, 3, 4, 5, 6, 7, 8, 9, 10, 11, 12, 13, 14, 15, 16, 17, 18, 19, 20] hP hD (by decide +kernel) rfl
        exact W.iret (v := (-1002)) hx hb hr (fun t ht hW => ⟨⟨(-1002), (pn, pf, pd, pe, pb, pco), rfl, hpb, by rw [ht]; exact hP9, hD9⟩, hS.F ht⟩) hS.2.2 dX7_parks_42
    · refine lv_if_ne (tgt := 20) hx hb dX7_parks_13 (by decide) (fun h => absurd (by decide) h) (fun _ => ?_)
      refine lv_sipush (v := (-1001)) hx hb dX7_parks_16 (by decide) ?_
      obtain ⟨hP9, hD9⟩ := pd_sub [((a 0), .inr (7, (fX7 (a 1) (a 3) (a 19) (a 35) (a 40) (nI rk) lfa (a 53) (a 56) (a 63) (a 64) (a 68)))), ((a 3), .inl (k 3, 3, .inr (.inr (.inr (.inr (a3 (a 4) (a 9) (a 14))))))), ((a 4), .inr (5, (fX5 (a 5) (a 6) (a 7) (a 8)))), (aI k (a 5) 10 (vv n0 see0 tm0 g0)), (aI k (a 7) 24 fp0), (aI k (a 8) 4 fl0), ((a 9), .inr (5, (fX5 (a 10) (a 11) (a 12) (a 13)))), (aI k (a 10) 10 (vv n1 see1 tm1 g1)), (aI k (a 12) 24 fp1), (aI k (a 13) 4 fl1), ((a 14), .inr (5, (fX5 (a 15) (a 16) (a 17) (a 18)))), (aI k (a 15) 10 (vv n2 see2 tm2 g2)), (aI k (a 17) 24 fp2), (aI k (a 18) 4 fl2), ((a 53), .inr (4, (fX4 (a 54) (a 55) (nI cc) (nI rz) ro sd))), (aI k (a 54) 4 wk), (aI k (a 55) 4 (nF br)), ((a 68), .inr (1, (fX1 (a 53) (a 69) (a 70) (a 71) pn pf pd pe))), (aI k (a 69) 4 (nF pb)), (aI k (a 70) 100 pco), (aI k (a 71) 16 pg)] [0, 1, 2, 3, 4, 5, 6, 7, 8, 9, 10, 11, 12, 13, 14, 15, 16, 17, 18, 19, 20] hP hD (by decide +kernel) rfl
      exact W.iret (v := (-1001)) hx hb hr (fun t ht hW => ⟨⟨(-1001), (pn, pf, pd, pe, pb, pco), rfl, hpb, by rw [ht]; exact hP9, hD9⟩, hS.F ht⟩) hS.2.2 dX7_parks_19
  · refine lv_if_eq (tgt := 16) hx hb dX7_parks_5 (by decide) (fun h => absurd h (by decide)) (fun _ => ?_)
    refine lv_aload_n hx hb dX7_parks_8 rfl (lv_at hl 0 rfl) ?_
    refine lv_iload_n hx hb dX7_parks_9 rfl (lv_at hl 3 rfl) ?_
    refine ro_i (D := D) (va_runV (As := [.int p2]) (rest := []) ⟨hx, hb, hml, hown, hts⟩ ((x_isCar l D k st lo a rk lfa cc rz ro sd p2 (by first | assumption | omega)) H.size) (cwV 1 hts (gV tw_809 tw_811 tw_17 tw_79 tw_812) rfl rfl rfl (by decide +kernel) ⟨Nat.le_of_ble_eq_true rfl, Nat.le_of_ble_eq_true rfl⟩) (pV hS hAlo hlo hP hK (va_Dlo hD hAlo) hZ [0, 14] (by decide) rfl (ci := 7) (q := (RX7, TX7, 12)) (q0 := 0) rfl rfl) rfl rfl hl.1 rfl (lv_room (Nat.le_of_ble_eq_true rfl)) dX7_parks_10 ⟨Nat.le_of_ble_eq_true rfl, Nat.le_of_ble_eq_true rfl⟩) hS hA hP (fun r_13 H locs hw_13 hP hS => ?_)
    try dsimp only at hw_13
    rcases hw_13 with ⟨rfl, ic_14, hic_14, rfl⟩ | rfl
    · refine lv_if_ne (tgt := 20) hx hb dX7_parks_13 (by decide) (fun _ => ?_) (fun h => absurd h (by decide))
      refine lv_aload_n hx hb dX7_parks_20 rfl (lv_at hl 0 rfl) ?_
      refine lv_iload_n hx hb dX7_parks_21 rfl (lv_at hl 1 rfl) ?_
      refine lv_iload_n hx hb dX7_parks_22 rfl (lv_at hl 2 rfl) ?_
      refine ro_i (D := D) (va_runV (As := [.int 1, .int p1]) (rest := []) ⟨hx, hb, hml, hown, hts⟩ ((x_isSet_1 l D k st lo a rk lfa n1 see1 tm1 g1 p1) H.size) (cwV 2 hts (gV tw_817 tw_819 tw_18 tw_79 tw_820) rfl rfl rfl (by decide +kernel) ⟨Nat.le_of_ble_eq_true rfl, Nat.le_of_ble_eq_true rfl⟩) (pV hS hAlo hlo hP hK (va_Dlo hD hAlo) hZ [0, 1, 6, 7] (by decide) rfl (ci := 7) (q := (RX7, TX7, 12)) (q0 := 0) rfl rfl) rfl rfl hl.1 rfl (lv_room (Nat.le_of_ble_eq_true rfl)) dX7_parks_23 ⟨Nat.le_of_ble_eq_true rfl, Nat.le_of_ble_eq_true rfl⟩) hS hA hP (fun r_15 H locs hw_15 hP hS => ?_)
      try dsimp only at hw_15
      rcases hw_15 with rfl | rfl
      · refine lv_if_eq (tgt := 39) hx hb dX7_parks_26 (by decide) (fun h => absurd h (by decide)) (fun _ => ?_)
        refine lv_iload hx hb dX7_parks_29 (lv_at hl 4 rfl) ?_
        refine lv_iconst (v := 0) hx hb dX7_parks_31 (by decide) ?_
        refine lv_iconst (v := 1) hx hb dX7_parks_32 (by decide) ?_
        refine ro_i (D := D) (va_runS (As := [.int p3, .int 0, .int 1]) (rest := []) ⟨hx, hb, hml, hown, hts⟩ ((k_isIn l D k st lo p3 0 1) H.size) (va_cwS 3 hts (gS tw_593 tw_594 tw_79 tw_595) rfl rfl rfl (by decide +kernel) ⟨Nat.le_of_ble_eq_true rfl, Nat.le_of_ble_eq_true rfl⟩) (pS hS hAlo hlo hP hK (va_Dlo hD hAlo) hZ [] (by decide) rfl) rfl rfl hl.1 rfl (lv_room (Nat.le_of_ble_eq_true rfl)) dX7_parks_33 ⟨Nat.le_of_ble_eq_true rfl, Nat.le_of_ble_eq_true rfl⟩) hS hA hP (fun r_16 H locs hw_16 hP hS => ?_)
        try dsimp only at hw_16
        rcases hw_16 with ⟨rfl, hw_16⟩ | ⟨rfl, hw_16⟩
        · refine lv_if_ne (tgt := 43) hx hb dX7_parks_36 (by decide) (fun _ => ?_) (fun h => absurd h (by decide))
          refine lv_aload_n hx hb dX7_parks_43 rfl (lv_at hl 0 rfl) ?_
          refine va_get (D := D) (ci := 7) (v := .ref (a 68)) (C := RX7) (T := TX7) (N := 12) hx hb hts inX7 hown hK hP 0 rfl rfl 11 (by decide) (hts _ tw_316) (fun _ h9 => h9) rfl dX7_parks_44 ?_
          refine lv_aload_n hx hb dX7_parks_47 rfl (lv_at hl 0 rfl) ?_
          refine va_get (D := D) (ci := 7) (v := .ref (a 3)) (C := RX7) (T := TX7) (N := 12) hx hb hts inX7 hown hK hP 0 rfl rfl 1 (by decide) (hts _ tw_306) (fun _ h9 => h9) rfl dX7_parks_48 ?_
          refine lv_iload_n hx hb dX7_parks_51 rfl (lv_at hl 1 rfl) ?_
          refine va_aldq hx hb hK hP 1 3 rfl rfl (by unfold vp_in; decide) dX7_parks_52 ?_
          refine lv_tr (y := .ref (a 9)) rfl ?_
          refine lv_iload_n hx hb dX7_parks_53 rfl (lv_at hl 2 rfl) ?_
          refine rw_v (D := D) (wr := [((a 0), .inr (7, (fX7 (a 1) (a 3) (a 19) (a 35) (a 40) (nI rk) lfa (a 53) (a 56) (a 63) (a 64) (a 68)))), ((a 3), .inl (k 3, 3, .inr (.inr (.inr (.inr (a3 (a 4) (a 9) (a 14))))))), ((a 4), .inr (5, (fX5 (a 5) (a 6) (a 7) (a 8)))), (aI k (a 5) 10 (vv n0 see0 tm0 g0)), (aI k (a 7) 24 fp0), (aI k (a 8) 4 fl0), ((a 14), .inr (5, (fX5 (a 15) (a 16) (a 17) (a 18)))), (aI k (a 15) 10 (vv n2 see2 tm2 g2)), (aI k (a 17) 24 fp2), (aI k (a 18) 4 fl2), (aI k (a 71) 16 pg)]) (va_runV (As := [.ref (a 9), .int p1]) (rest := []) ⟨hx, hb, hml, hown, hts⟩ ((x_comeTo l D k st lo (a 53) (a 68) (a 69) (a 70) (a 71) pn pf pd pe pb pco (a 9) (a 10) (a 11) (a 12) (a 13) n1 see1 tm1 g1 fp1 fl1 (a 54) (a 55) cc rz ro sd wk br p1 (by first | assumption | omega) (by first | assumption | omega) hbr hpb) H.size) (cwV 2 hts (gV tw_821 tw_822 tw_823 tw_84 tw_824) rfl rfl rfl (by decide +kernel) ⟨Nat.le_of_ble_eq_true rfl, Nat.le_of_ble_eq_true rfl⟩) (pV hS hAlo hlo hP hK (va_Dlo hD hAlo) hZ [17, 18, 19, 6, 7, 8, 9, 14, 15, 16] (by decide +kernel) rfl (ci := 1) (q := (RX1, TX1, 8)) (q0 := 0) rfl rfl) rfl rfl hl.1 rfl (lv_room (Nat.le_of_ble_eq_true rfl)) dX7_parks_54 ⟨Nat.le_of_ble_eq_true rfl, Nat.le_of_ble_eq_true rfl⟩) hS hA hP hD [17, 18, 19, 6, 7, 8, 9, 14, 15, 16] [0, 1, 2, 3, 4, 5, 10, 11, 12, 13, 20] rfl rfl (by decide +kernel) (by decide +kernel) (fun u H locs hw_17 hP hD hS => ?_)
          obtain ⟨pb__17, pco__17⟩ := u
          have hQ9 := pd_mk [((a 0), .inr (7, (fX7 (a 1) (a 3) (a 19) (a 35) (a 40) (nI rk) lfa (a 53) (a 56) (a 63) (a 64) (a 68)))), ((a 3), .inl (k 3, 3, .inr (.inr (.inr (.inr (a3 (a 4) (a 9) (a 14))))))), ((a 4), .inr (5, (fX5 (a 5) (a 6) (a 7) (a 8)))), (aI k (a 5) 10 (vv n0 see0 tm0 g0)), (aI k (a 7) 24 fp0), (aI k (a 8) 4 fl0), ((a 14), .inr (5, (fX5 (a 15) (a 16) (a 17) (a 18)))), (aI k (a 15) 10 (vv n2 see2 tm2 g2)), (aI k (a 17) 24 fp2), (aI k (a 18) 4 fl2), (aI k (a 71) 16 pg), ((a 68), .inr (1, (fX1 (a 53) (a 69) (a 70) (a 71) (nI n1) p1 0 0))), (aI k (a 69) 4 (nF pb__17)), (aI k (a 70) 100 pco__17), ((a 9), .inr (5, (fX5 (a 10) (a 11) (a 12) (a 13)))), (aI k (a 10) 10 (vv n1 see1 tm1 g1)), (aI k (a 12) 24 fp1), (aI k (a 13) 4 fl1), ((a 53), .inr (4, (fX4 (a 54) (a 55) (nI cc) (nI rz) ro sd))), (aI k (a 54) 4 wk), (aI k (a 55) 4 (nF br))] hP hD
          clear hP hD
          obtain ⟨hP, hD⟩ := hQ9
          try dsimp only at hw_17
          refine lv_aload_n hx hb dX7_parks_57 rfl (lv_at hl 0 rfl) ?_
          refine va_get (D := D) (ci := 7) (v := .ref (a 68)) (C := RX7) (T := TX7) (N := 12) hx hb hts inX7 hown hK hP 0 rfl rfl 11 (by decide) (hts _ tw_316) (fun _ h9 => h9) rfl dX7_parks_58 ?_
          refine lv_iload_n hx hb dX7_parks_61 rfl (lv_at hl 3 rfl) ?_
          refine ro_i (D := D) (va_runV (As := [.int (nI ic_14)]) (rest := []) ⟨hx, hb, hml, hown, hts⟩ ((x_placeOf l D k st lo (a 53) (a 68) (a 69) (a 70) (a 71) n1 p1 0 0 pb__17 ic_14 (by first | assumption | omega) (by first | assumption | omega) hw_17) H.size) (cwV 1 hts (gV tw_830 tw_831 tw_832 tw_84 tw_833) rfl rfl rfl (by decide +kernel) ⟨Nat.le_of_ble_eq_true rfl, Nat.le_of_ble_eq_true rfl⟩) (pV hS hAlo hlo hP hK (va_Dlo hD hAlo) hZ [11, 12] (by decide) rfl (ci := 1) (q := (RX1, TX1, 8)) (q0 := 0) rfl rfl) rfl rfl hl.1 rfl (lv_room (Nat.le_of_ble_eq_true rfl)) dX7_parks_62 ⟨Nat.le_of_ble_eq_true rfl, Nat.le_of_ble_eq_true rfl⟩) hS hA hP (fun r_18 H locs hw_18 hP hS => ?_)
          try dsimp only at hw_18
          obtain ⟨zp_19, hzp_19, rfl⟩ := hw_18
          refine lv_istore (lv' := [(5, .int (nI zp_19)), (0, .ref (a 0)), (1, .int 1), (2, .int p1), (3, .int (nI ic_14)), (4, .int p3)]) hx hb dX7_parks_65 hl (by decide) rfl (fun ls hl => ?_)
          refine lv_iload hx hb dX7_parks_67 (lv_at hl 5 rfl) ?_
          refine lv_iconst (v := 1) hx hb dX7_parks_69 (by decide) ?_
          refine lv_icmp_ne (tgt := 84) hx hb dX7_parks_70 (by decide) (fun c_20 => ?_) (fun c_20 => ?_)
          · refine lv_iload hx hb dX7_parks_84 (lv_at hl 0 rfl) ?_
            refine lv_aload_n hx hb dX7_parks_86 rfl (lv_at hl 1 rfl) ?_
            refine va_get (D := D) (ci := 7) (v := .ref (a 3)) (C := RX7) (T := TX7) (N := 12) hx hb hts inX7 hown hK hP 0 rfl rfl 1 (by decide) (hts _ tw_306) (fun _ h9 => h9) rfl dX7_parks_87 ?_
            refine lv_iload_n hx hb dX7_parks_90 rfl (lv_at hl 2 rfl) ?_
            refine va_aldq hx hb hK hP 1 3 rfl rfl (by unfold vp_in; decide) dX7_parks_91 ?_
            refine lv_tr (y := .ref (a 9)) rfl ?_
            refine ro_i (D := D) (va_runV (As := []) (rest := [.int (nI zp_19)]) ⟨hx, hb, hml, hown, hts⟩ ((x_doors l D k st lo (a 9) (a 10) (a 11) (a 12) (a 13) n1 see1 tm1 g1) H.size) (cwV 0 hts (gV tw_580 tw_478 tw_479 tw_81 tw_480) rfl rfl rfl (by decide +kernel) ⟨Nat.le_of_ble_eq_true rfl, Nat.le_of_ble_eq_true rfl⟩) (pV hS hAlo hlo hP hK (va_Dlo hD hAlo) hZ [14, 15] (by decide) rfl (ci := 5) (q := (RX5, TX5, 4)) (q0 := 0) rfl rfl) rfl rfl hl.1 rfl (lv_room (Nat.le_of_ble_eq_true rfl)) dX7_parks_92 ⟨Nat.le_of_ble_eq_true rfl, Nat.le_of_ble_eq_true rfl⟩) hS hA hP (fun r_21 H locs hw_21 hP hS => ?_)
            try dsimp only at hw_21
            subst hw_21
            refine lv_icmp_ge (tgt := 103) hx hb dX7_parks_95 (by decide) (fun c_22 => ?_) (fun c_22 => ?_)
            · have c_22 := (nI_leI (a := n1) (b := zp_19) (by omega) (by omega)).mp c_22
              refine lv_iconst (v := (-1)) hx hb dX7_parks_103 (by decide) ?_
              obtain ⟨hP9, hD9⟩ := pd_sub [((a 0), .inr (7, (fX7 (a 1) (a 3) (a 19) (a 35) (a 40) (nI rk) lfa (a 53) (a 56) (a 63) (a 64) (a 68)))), ((a 3), .inl (k 3, 3, .inr (.inr (.inr (.inr (a3 (a 4) (a 9) (a 14))))))), ((a 4), .inr (5, (fX5 (a 5) (a 6) (a 7) (a 8)))), (aI k (a 5) 10 (vv n0 see0 tm0 g0)), (aI k (a 7) 24 fp0), (aI k (a 8) 4 fl0), ((a 9), .inr (5, (fX5 (a 10) (a 11) (a 12) (a 13)))), (aI k (a 10) 10 (vv n1 see1 tm1 g1)), (aI k (a 12) 24 fp1), (aI k (a 13) 4 fl1), ((a 14), .inr (5, (fX5 (a 15) (a 16) (a 17) (a 18)))), (aI k (a 15) 10 (vv n2 see2 tm2 g2)), (aI k (a 17) 24 fp2), (aI k (a 18) 4 fl2), ((a 53), .inr (4, (fX4 (a 54) (a 55) (nI cc) (nI rz) ro sd))), (aI k (a 54) 4 wk), (aI k (a 55) 4 (nF br)), ((a 68), .inr (1, (fX1 (a 53) (a 69) (a 70) (a 71) (nI n1) p1 0 0))), (aI k (a 69) 4 (nF pb__17)), (aI k (a 70) 100 pco__17), (aI k (a 71) 16 pg)] [0, 1, 2, 3, 4, 5, 14, 15, 16, 17, 6, 7, 8, 9, 18, 19, 20, 11, 12, 13, 10] hP hD (by decide +kernel) rfl
              exact W.iret (v := (-1)) hx hb hr (fun t ht hW => ⟨⟨(-1), ((nI n1), p1, 0, 0, pb__17, pco__17), rfl, hw_17, by rw [ht]; exact hP9, hD9⟩, hS.F ht⟩) hS.2.2 dX7_parks_104
            · have c_22 : ¬ (n1 ≤ zp_19) := fun h => c_22 ((nI_leI (a := n1) (b := zp_19) (by omega) (by omega)).mpr h)
              refine lv_iload hx hb dX7_parks_98 (lv_at hl 0 rfl) ?_
              refine lv_goto (tgt := 104) hx hb dX7_parks_100 (by decide) ?_
              obtain ⟨hP9, hD9⟩ := pd_sub [((a 0), .inr (7, (fX7 (a 1) (a 3) (a 19) (a 35) (a 40) (nI rk) lfa (a 53) (a 56) (a 63) (a 64) (a 68)))), ((a 3), .inl (k 3, 3, .inr (.inr (.inr (.inr (a3 (a 4) (a 9) (a 14))))))), ((a 4), .inr (5, (fX5 (a 5) (a 6) (a 7) (a 8)))), (aI k (a 5) 10 (vv n0 see0 tm0 g0)), (aI k (a 7) 24 fp0), (aI k (a 8) 4 fl0), ((a 9), .inr (5, (fX5 (a 10) (a 11) (a 12) (a 13)))), (aI k (a 10) 10 (vv n1 see1 tm1 g1)), (aI k (a 12) 24 fp1), (aI k (a 13) 4 fl1), ((a 14), .inr (5, (fX5 (a 15) (a 16) (a 17) (a 18)))), (aI k (a 15) 10 (vv n2 see2 tm2 g2)), (aI k (a 17) 24 fp2), (aI k (a 18) 4 fl2), ((a 53), .inr (4, (fX4 (a 54) (a 55) (nI cc) (nI rz) ro sd))), (aI k (a 54) 4 wk), (aI k (a 55) 4 (nF br)), ((a 68), .inr (1, (fX1 (a 53) (a 69) (a 70) (a 71) (nI n1) p1 0 0))), (aI k (a 69) 4 (nF pb__17)), (aI k (a 70) 100 pco__17), (aI k (a 71) 16 pg)] [0, 1, 2, 3, 4, 5, 14, 15, 16, 17, 6, 7, 8, 9, 18, 19, 20, 11, 12, 13, 10] hP hD (by decide +kernel) rfl
              exact W.iret (v := (nI zp_19)) hx hb hr (fun t ht hW => ⟨⟨(nI zp_19), ((nI n1), p1, 0, 0, pb__17, pco__17), rfl, hw_17, by rw [ht]; exact hP9, hD9⟩, hS.F ht⟩) hS.2.2 dX7_parks_104
          · refine lv_aload_n hx hb dX7_parks_73 rfl (lv_at hl 1 rfl) ?_
            refine va_get (D := D) (ci := 7) (v := .ref (a 68)) (C := RX7) (T := TX7) (N := 12) hx hb hts inX7 hown hK hP 0 rfl rfl 11 (by decide) (hts _ tw_316) (fun _ h9 => h9) rfl dX7_parks_74 ?_
            refine lv_iload_n hx hb dX7_parks_77 rfl (lv_at hl 4 rfl) ?_
            refine lv_iload hx hb dX7_parks_78 (lv_at hl 0 rfl) ?_
            refine ro_i (D := D) (va_runV (As := [.int (nI ic_14), .int (nI zp_19)]) (rest := []) ⟨hx, hb, hml, hown, hts⟩ ((x_costAt l D k st lo (a 53) (a 68) (a 69) (a 70) (a 71) n1 p1 0 0 pco__17 ic_14 zp_19 (by first | assumption | omega) (by first | assumption | omega)) H.size) (cwV 2 hts (gV tw_842 tw_843 tw_844 tw_84 tw_845) rfl rfl rfl (by decide +kernel) ⟨Nat.le_of_ble_eq_true rfl, Nat.le_of_ble_eq_true rfl⟩) (pV hS hAlo hlo hP hK (va_Dlo hD hAlo) hZ [11, 13] (by decide) rfl (ci := 1) (q := (RX1, TX1, 8)) (q0 := 0) rfl rfl) rfl rfl hl.1 rfl (lv_room (Nat.le_of_ble_eq_true rfl)) dX7_parks_80 ⟨Nat.le_of_ble_eq_true rfl, Nat.le_of_ble_eq_true rfl⟩) hS hA hP (fun r_23 H locs hw_23 hP hS => ?_)
            try dsimp only at hw_23
            obtain ⟨hP9, hD9⟩ := pd_sub [((a 0), .inr (7, (fX7 (a 1) (a 3) (a 19) (a 35) (a 40) (nI rk) lfa (a 53) (a 56) (a 63) (a 64) (a 68)))), ((a 3), .inl (k 3, 3, .inr (.inr (.inr (.inr (a3 (a 4) (a 9) (a 14))))))), ((a 4), .inr (5, (fX5 (a 5) (a 6) (a 7) (a 8)))), (aI k (a 5) 10 (vv n0 see0 tm0 g0)), (aI k (a 7) 24 fp0), (aI k (a 8) 4 fl0), ((a 9), .inr (5, (fX5 (a 10) (a 11) (a 12) (a 13)))), (aI k (a 10) 10 (vv n1 see1 tm1 g1)), (aI k (a 12) 24 fp1), (aI k (a 13) 4 fl1), ((a 14), .inr (5, (fX5 (a 15) (a 16) (a 17) (a 18)))), (aI k (a 15) 10 (vv n2 see2 tm2 g2)), (aI k (a 17) 24 fp2), (aI k (a 18) 4 fl2), ((a 53), .inr (4, (fX4 (a 54) (a 55) (nI cc) (nI rz) ro sd))), (aI k (a 54) 4 wk), (aI k (a 55) 4 (nF br)), ((a 68), .inr (1, (fX1 (a 53) (a 69) (a 70) (a 71) (nI n1) p1 0 0))), (aI k (a 69) 4 (nF pb__17)), (aI k (a 70) 100 pco__17), (aI k (a 71) 16 pg)] [0, 1, 2, 3, 4, 5, 14, 15, 16, 17, 6, 7, 8, 9, 18, 19, 20, 11, 12, 13, 10] hP hD (by decide +kernel) rfl
            exact W.iret (v := r_23) hx hb hr (fun t ht hW => ⟨⟨r_23, ((nI n1), p1, 0, 0, pb__17, pco__17), rfl, hw_17, by rw [ht]; exact hP9, hD9⟩, hS.F ht⟩) hS.2.2 dX7_parks_83
        · refine lv_if_ne (tgt := 43) hx hb dX7_parks_36 (by decide) (fun h => absurd (by decide) h) (fun _ => ?_)
          refine lv_sipush (v := (-1002)) hx hb dX7_parks_39 (by decide) ?_
          obtain ⟨hP9, hD9⟩ := pd_sub [((a 0), .inr (7, (fX7 (a 1) (a 3) (a 19) (a 35) (a 40) (nI rk) lfa (a 53) (a 56) (a 63) (a 64) (a 68)))), ((a 3), .inl (k 3, 3, .inr (.inr (.inr (.inr (a3 (a 4) (a 9) (a 14))))))), ((a 4), .inr (5, (fX5 (a 5) (a 6) (a 7) (a 8)))), (aI k (a 5) 10 (vv n0 see0 tm0 g0)), (aI k (a 7) 24 fp0), (aI k (a 8) 4 fl0), ((a 9), .inr (5, (fX5 (a 10) (a 11) (a 12) (a 13)))), (aI k (a 10) 10 (vv n1 see1 tm1 g1)), (aI k (a 12) 24 fp1), (aI k (a 13) 4 fl1), ((a 14), .inr (5, (fX5 (a 15) (a 16) (a 17) (a 18)))), (aI k (a 15) 10 (vv n2 see2 tm2 g2)), (aI k (a 17) 24 fp2), (aI k (a 18) 4 fl2), ((a 53), .inr (4, (fX4 (a 54) (a 55) (nI cc) (nI rz) ro sd))), (aI k (a 54) 4 wk), (aI k (a 55) 4 (nF br)), ((a 68), .inr (1, (fX1 (a 53) (a 69) (a 70) (a 71) pn pf pd pe))), (aI k (a 69) 4 (nF pb)), (aI k (a 70) 100 pco), (aI k (a 71) 16 pg)] [0, 1, 2, 3, 4, 5, 6, 7, 8, 9, 10, 11, 12, 13, 14, 15, 16, 17, 18, 19, 20] hP hD (by decide +kernel) rfl
          exact W.iret (v := (-1002)) hx hb hr (fun t ht hW => ⟨⟨(-1002), (pn, pf, pd, pe, pb, pco), rfl, hpb, by rw [ht]; exact hP9, hD9⟩, hS.F ht⟩) hS.2.2 dX7_parks_42
      · refine lv_if_eq (tgt := 39) hx hb dX7_parks_26 (by decide) (fun _ => ?_) (fun h => absurd (by decide) h)
        refine lv_sipush (v := (-1002)) hx hb dX7_parks_39 (by decide) ?_
        obtain ⟨hP9, hD9⟩ := pd_sub [((a 0), .inr (7, (fX7 (a 1) (a 3) (a 19) (a 35) (a 40) (nI rk) lfa (a 53) (a 56) (a 63) (a 64) (a 68)))), ((a 3), .inl (k 3, 3, .inr (.inr (.inr (.inr (a3 (a 4) (a 9) (a 14))))))), ((a 4), .inr (5, (fX5 (a 5) (a 6) (a 7) (a 8)))), (aI k (a 5) 10 (vv n0 see0 tm0 g0)), (aI k (a 7) 24 fp0), (aI k (a 8) 4 fl0), ((a 9), .inr (5, (fX5 (a 10) (a 11) (a 12) (a 13)))), (aI k (a 10) 10 (vv n1 see1 tm1 g1)), (aI k (a 12) 24 fp1), (aI k (a 13) 4 fl1), ((a 14), .inr (5, (fX5 (a 15) (a 16) (a 17) (a 18)))), (aI k (a 15) 10 (vv n2 see2 tm2 g2)), (aI k (a 17) 24 fp2), (aI k (a 18) 4 fl2), ((a 53), .inr (4, (fX4 (a 54) (a 55) (nI cc) (nI rz) ro sd))), (aI k (a 54) 4 wk), (aI k (a 55) 4 (nF br)), ((a 68), .inr (1, (fX1 (a 53) (a 69) (a 70) (a 71) pn pf pd pe))), (aI k (a 69) 4 (nF pb)), (aI k (a 70) 100 pco), (aI k (a 71) 16 pg)] [0, 1, 2, 3, 4, 5, 6, 7, 8, 9, 10, 11, 12, 13, 14, 15, 16, 17, 18, 19, 20] hP hD (by decide +kernel) rfl
        exact W.iret (v := (-1002)) hx hb hr (fun t ht hW => ⟨⟨(-1002), (pn, pf, pd, pe, pb, pco), rfl, hpb, by rw [ht]; exact hP9, hD9⟩, hS.F ht⟩) hS.2.2 dX7_parks_42
    · refine lv_if_ne (tgt := 20) hx hb dX7_parks_13 (by decide) (fun h => absurd (by decide) h) (fun _ => ?_)
      refine lv_sipush (v := (-1001)) hx hb dX7_parks_16 (by decide) ?_
      obtain ⟨hP9, hD9⟩ := pd_sub [((a 0), .inr (7, (fX7 (a 1) (a 3) (a 19) (a 35) (a 40) (nI rk) lfa (a 53) (a 56) (a 63) (a 64) (a 68)))), ((a 3), .inl (k 3, 3, .inr (.inr (.inr (.inr (a3 (a 4) (a 9) (a 14))))))), ((a 4), .inr (5, (fX5 (a 5) (a 6) (a 7) (a 8)))), (aI k (a 5) 10 (vv n0 see0 tm0 g0)), (aI k (a 7) 24 fp0), (aI k (a 8) 4 fl0), ((a 9), .inr (5, (fX5 (a 10) (a 11) (a 12) (a 13)))), (aI k (a 10) 10 (vv n1 see1 tm1 g1)), (aI k (a 12) 24 fp1), (aI k (a 13) 4 fl1), ((a 14), .inr (5, (fX5 (a 15) (a 16) (a 17) (a 18)))), (aI k (a 15) 10 (vv n2 see2 tm2 g2)), (aI k (a 17) 24 fp2), (aI k (a 18) 4 fl2), ((a 53), .inr (4, (fX4 (a 54) (a 55) (nI cc) (nI rz) ro sd))), (aI k (a 54) 4 wk), (aI k (a 55) 4 (nF br)), ((a 68), .inr (1, (fX1 (a 53) (a 69) (a 70) (a 71) pn pf pd pe))), (aI k (a 69) 4 (nF pb)), (aI k (a 70) 100 pco), (aI k (a 71) 16 pg)] [0, 1, 2, 3, 4, 5, 6, 7, 8, 9, 10, 11, 12, 13, 14, 15, 16, 17, 18, 19, 20] hP hD (by decide +kernel) rfl
      exact W.iret (v := (-1001)) hx hb hr (fun t ht hW => ⟨⟨(-1001), (pn, pf, pd, pe, pb, pco), rfl, hpb, by rw [ht]; exact hP9, hD9⟩, hS.F ht⟩) hS.2.2 dX7_parks_19
  · refine lv_if_eq (tgt := 16) hx hb dX7_parks_5 (by decide) (fun h => absurd h (by decide)) (fun _ => ?_)
    refine lv_aload_n hx hb dX7_parks_8 rfl (lv_at hl 0 rfl) ?_
    refine lv_iload_n hx hb dX7_parks_9 rfl (lv_at hl 3 rfl) ?_
    refine ro_i (D := D) (va_runV (As := [.int p2]) (rest := []) ⟨hx, hb, hml, hown, hts⟩ ((x_isCar l D k st lo a rk lfa cc rz ro sd p2 (by first | assumption | omega)) H.size) (cwV 1 hts (gV tw_809 tw_811 tw_17 tw_79 tw_812) rfl rfl rfl (by decide +kernel) ⟨Nat.le_of_ble_eq_true rfl, Nat.le_of_ble_eq_true rfl⟩) (pV hS hAlo hlo hP hK (va_Dlo hD hAlo) hZ [0, 14] (by decide) rfl (ci := 7) (q := (RX7, TX7, 12)) (q0 := 0) rfl rfl) rfl rfl hl.1 rfl (lv_room (Nat.le_of_ble_eq_true rfl)) dX7_parks_10 ⟨Nat.le_of_ble_eq_true rfl, Nat.le_of_ble_eq_true rfl⟩) hS hA hP (fun r_24 H locs hw_24 hP hS => ?_)
    try dsimp only at hw_24
    rcases hw_24 with ⟨rfl, ic_25, hic_25, rfl⟩ | rfl
    · refine lv_if_ne (tgt := 20) hx hb dX7_parks_13 (by decide) (fun _ => ?_) (fun h => absurd h (by decide))
      refine lv_aload_n hx hb dX7_parks_20 rfl (lv_at hl 0 rfl) ?_
      refine lv_iload_n hx hb dX7_parks_21 rfl (lv_at hl 1 rfl) ?_
      refine lv_iload_n hx hb dX7_parks_22 rfl (lv_at hl 2 rfl) ?_
      refine ro_i (D := D) (va_runV (As := [.int 2, .int p1]) (rest := []) ⟨hx, hb, hml, hown, hts⟩ ((x_isSet_2 l D k st lo a rk lfa n2 see2 tm2 g2 p1) H.size) (cwV 2 hts (gV tw_817 tw_819 tw_18 tw_79 tw_820) rfl rfl rfl (by decide +kernel) ⟨Nat.le_of_ble_eq_true rfl, Nat.le_of_ble_eq_true rfl⟩) (pV hS hAlo hlo hP hK (va_Dlo hD hAlo) hZ [0, 1, 10, 11] (by decide) rfl (ci := 7) (q := (RX7, TX7, 12)) (q0 := 0) rfl rfl) rfl rfl hl.1 rfl (lv_room (Nat.le_of_ble_eq_true rfl)) dX7_parks_23 ⟨Nat.le_of_ble_eq_true rfl, Nat.le_of_ble_eq_true rfl⟩) hS hA hP (fun r_26 H locs hw_26 hP hS => ?_)
      try dsimp only at hw_26
      rcases hw_26 with rfl | rfl
      · refine lv_if_eq (tgt := 39) hx hb dX7_parks_26 (by decide) (fun h => absurd h (by decide)) (fun _ => ?_)
        refine lv_iload hx hb dX7_parks_29 (lv_at hl 4 rfl) ?_
        refine lv_iconst (v := 0) hx hb dX7_parks_31 (by decide) ?_
        refine lv_iconst (v := 1) hx hb dX7_parks_32 (by decide) ?_
        refine ro_i (D := D) (va_runS (As := [.int p3, .int 0, .int 1]) (rest := []) ⟨hx, hb, hml, hown, hts⟩ ((k_isIn l D k st lo p3 0 1) H.size) (va_cwS 3 hts (gS tw_593 tw_594 tw_79 tw_595) rfl rfl rfl (by decide +kernel) ⟨Nat.le_of_ble_eq_true rfl, Nat.le_of_ble_eq_true rfl⟩) (pS hS hAlo hlo hP hK (va_Dlo hD hAlo) hZ [] (by decide) rfl) rfl rfl hl.1 rfl (lv_room (Nat.le_of_ble_eq_true rfl)) dX7_parks_33 ⟨Nat.le_of_ble_eq_true rfl, Nat.le_of_ble_eq_true rfl⟩) hS hA hP (fun r_27 H locs hw_27 hP hS => ?_)
        try dsimp only at hw_27
        rcases hw_27 with ⟨rfl, hw_27⟩ | ⟨rfl, hw_27⟩
        · refine lv_if_ne (tgt := 43) hx hb dX7_parks_36 (by decide) (fun _ => ?_) (fun h => absurd h (by decide))
          refine lv_aload_n hx hb dX7_parks_43 rfl (lv_at hl 0 rfl) ?_
          refine va_get (D := D) (ci := 7) (v := .ref (a 68)) (C := RX7) (T := TX7) (N := 12) hx hb hts inX7 hown hK hP 0 rfl rfl 11 (by decide) (hts _ tw_316) (fun _ h9 => h9) rfl dX7_parks_44 ?_
          refine lv_aload_n hx hb dX7_parks_47 rfl (lv_at hl 0 rfl) ?_
          refine va_get (D := D) (ci := 7) (v := .ref (a 3)) (C := RX7) (T := TX7) (N := 12) hx hb hts inX7 hown hK hP 0 rfl rfl 1 (by decide) (hts _ tw_306) (fun _ h9 => h9) rfl dX7_parks_48 ?_
          refine lv_iload_n hx hb dX7_parks_51 rfl (lv_at hl 1 rfl) ?_
          refine va_aldq hx hb hK hP 1 3 rfl rfl (by unfold vp_in; decide) dX7_parks_52 ?_
          refine lv_tr (y := .ref (a 14)) rfl ?_
          refine lv_iload_n hx hb dX7_parks_53 rfl (lv_at hl 2 rfl) ?_
          refine rw_v (D := D) (wr := [((a 0), .inr (7, (fX7 (a 1) (a 3) (a 19) (a 35) (a 40) (nI rk) lfa (a 53) (a 56) (a 63) (a 64) (a 68)))), ((a 3), .inl (k 3, 3, .inr (.inr (.inr (.inr (a3 (a 4) (a 9) (a 14))))))), ((a 4), .inr (5, (fX5 (a 5) (a 6) (a 7) (a 8)))), (aI k (a 5) 10 (vv n0 see0 tm0 g0)), (aI k (a 7) 24 fp0), (aI k (a 8) 4 fl0), ((a 9), .inr (5, (fX5 (a 10) (a 11) (a 12) (a 13)))), (aI k (a 10) 10 (vv n1 see1 tm1 g1)), (aI k (a 12) 24 fp1), (aI k (a 13) 4 fl1), (aI k (a 71) 16 pg)]) (va_runV (As := [.ref (a 14), .int p1]) (rest := []) ⟨hx, hb, hml, hown, hts⟩ ((x_comeTo l D k st lo (a 53) (a 68) (a 69) (a 70) (a 71) pn pf pd pe pb pco (a 14) (a 15) (a 16) (a 17) (a 18) n2 see2 tm2 g2 fp2 fl2 (a 54) (a 55) cc rz ro sd wk br p1 (by first | assumption | omega) (by first | assumption | omega) hbr hpb) H.size) (cwV 2 hts (gV tw_821 tw_822 tw_823 tw_84 tw_824) rfl rfl rfl (by decide +kernel) ⟨Nat.le_of_ble_eq_true rfl, Nat.le_of_ble_eq_true rfl⟩) (pV hS hAlo hlo hP hK (va_Dlo hD hAlo) hZ [17, 18, 19, 10, 11, 12, 13, 14, 15, 16] (by decide +kernel) rfl (ci := 1) (q := (RX1, TX1, 8)) (q0 := 0) rfl rfl) rfl rfl hl.1 rfl (lv_room (Nat.le_of_ble_eq_true rfl)) dX7_parks_54 ⟨Nat.le_of_ble_eq_true rfl, Nat.le_of_ble_eq_true rfl⟩) hS hA hP hD [17, 18, 19, 10, 11, 12, 13, 14, 15, 16] [0, 1, 2, 3, 4, 5, 6, 7, 8, 9, 20] rfl rfl (by decide +kernel) (by decide +kernel) (fun u H locs hw_28 hP hD hS => ?_)
          obtain ⟨pb__28, pco__28⟩ := u
          have hQ9 := pd_mk [((a 0), .inr (7, (fX7 (a 1) (a 3) (a 19) (a 35) (a 40) (nI rk) lfa (a 53) (a 56) (a 63) (a 64) (a 68)))), ((a 3), .inl (k 3, 3, .inr (.inr (.inr (.inr (a3 (a 4) (a 9) (a 14))))))), ((a 4), .inr (5, (fX5 (a 5) (a 6) (a 7) (a 8)))), (aI k (a 5) 10 (vv n0 see0 tm0 g0)), (aI k (a 7) 24 fp0), (aI k (a 8) 4 fl0), ((a 9), .inr (5, (fX5 (a 10) (a 11) (a 12) (a 13)))), (aI k (a 10) 10 (vv n1 see1 tm1 g1)), (aI k (a 12) 24 fp1), (aI k (a 13) 4 fl1), (aI k (a 71) 16 pg), ((a 68), .inr (1, (fX1 (a 53) (a 69) (a 70) (a 71) (nI n2) p1 0 0))), (aI k (a 69) 4 (nF pb__28)), (aI k (a 70) 100 pco__28), ((a 14), .inr (5, (fX5 (a 15) (a 16) (a 17) (a 18)))), (aI k (a 15) 10 (vv n2 see2 tm2 g2)), (aI k (a 17) 24 fp2), (aI k (a 18) 4 fl2), ((a 53), .inr (4, (fX4 (a 54) (a 55) (nI cc) (nI rz) ro sd))), (aI k (a 54) 4 wk), (aI k (a 55) 4 (nF br))] hP hD
          clear hP hD
          obtain ⟨hP, hD⟩ := hQ9
          try dsimp only at hw_28
          refine lv_aload_n hx hb dX7_parks_57 rfl (lv_at hl 0 rfl) ?_
          refine va_get (D := D) (ci := 7) (v := .ref (a 68)) (C := RX7) (T := TX7) (N := 12) hx hb hts inX7 hown hK hP 0 rfl rfl 11 (by decide) (hts _ tw_316) (fun _ h9 => h9) rfl dX7_parks_58 ?_
          refine lv_iload_n hx hb dX7_parks_61 rfl (lv_at hl 3 rfl) ?_
          refine ro_i (D := D) (va_runV (As := [.int (nI ic_25)]) (rest := []) ⟨hx, hb, hml, hown, hts⟩ ((x_placeOf l D k st lo (a 53) (a 68) (a 69) (a 70) (a 71) n2 p1 0 0 pb__28 ic_25 (by first | assumption | omega) (by first | assumption | omega) hw_28) H.size) (cwV 1 hts (gV tw_830 tw_831 tw_832 tw_84 tw_833) rfl rfl rfl (by decide +kernel) ⟨Nat.le_of_ble_eq_true rfl, Nat.le_of_ble_eq_true rfl⟩) (pV hS hAlo hlo hP hK (va_Dlo hD hAlo) hZ [11, 12] (by decide) rfl (ci := 1) (q := (RX1, TX1, 8)) (q0 := 0) rfl rfl) rfl rfl hl.1 rfl (lv_room (Nat.le_of_ble_eq_true rfl)) dX7_parks_62 ⟨Nat.le_of_ble_eq_true rfl, Nat.le_of_ble_eq_true rfl⟩) hS hA hP (fun r_29 H locs hw_29 hP hS => ?_)
          try dsimp only at hw_29
          obtain ⟨zp_30, hzp_30, rfl⟩ := hw_29
          refine lv_istore (lv' := [(5, .int (nI zp_30)), (0, .ref (a 0)), (1, .int 2), (2, .int p1), (3, .int (nI ic_25)), (4, .int p3)]) hx hb dX7_parks_65 hl (by decide) rfl (fun ls hl => ?_)
          refine lv_iload hx hb dX7_parks_67 (lv_at hl 5 rfl) ?_
          refine lv_iconst (v := 1) hx hb dX7_parks_69 (by decide) ?_
          refine lv_icmp_ne (tgt := 84) hx hb dX7_parks_70 (by decide) (fun c_31 => ?_) (fun c_31 => ?_)
          · refine lv_iload hx hb dX7_parks_84 (lv_at hl 0 rfl) ?_
            refine lv_aload_n hx hb dX7_parks_86 rfl (lv_at hl 1 rfl) ?_
            refine va_get (D := D) (ci := 7) (v := .ref (a 3)) (C := RX7) (T := TX7) (N := 12) hx hb hts inX7 hown hK hP 0 rfl rfl 1 (by decide) (hts _ tw_306) (fun _ h9 => h9) rfl dX7_parks_87 ?_
            refine lv_iload_n hx hb dX7_parks_90 rfl (lv_at hl 2 rfl) ?_
            refine va_aldq hx hb hK hP 1 3 rfl rfl (by unfold vp_in; decide) dX7_parks_91 ?_
            refine lv_tr (y := .ref (a 14)) rfl ?_
            refine ro_i (D := D) (va_runV (As := []) (rest := [.int (nI zp_30)]) ⟨hx, hb, hml, hown, hts⟩ ((x_doors l D k st lo (a 14) (a 15) (a 16) (a 17) (a 18) n2 see2 tm2 g2) H.size) (cwV 0 hts (gV tw_580 tw_478 tw_479 tw_81 tw_480) rfl rfl rfl (by decide +kernel) ⟨Nat.le_of_ble_eq_true rfl, Nat.le_of_ble_eq_true rfl⟩) (pV hS hAlo hlo hP hK (va_Dlo hD hAlo) hZ [14, 15] (by decide) rfl (ci := 5) (q := (RX5, TX5, 4)) (q0 := 0) rfl rfl) rfl rfl hl.1 rfl (lv_room (Nat.le_of_ble_eq_true rfl)) dX7_parks_92 ⟨Nat.le_of_ble_eq_true rfl, Nat.le_of_ble_eq_true rfl⟩) hS hA hP (fun r_32 H locs hw_32 hP hS => ?_)
            try dsimp only at hw_32
            subst hw_32
            refine lv_icmp_ge (tgt := 103) hx hb dX7_parks_95 (by decide) (fun c_33 => ?_) (fun c_33 => ?_)
            · have c_33 := (nI_leI (a := n2) (b := zp_30) (by omega) (by omega)).mp c_33
              refine lv_iconst (v := (-1)) hx hb dX7_parks_103 (by decide) ?_
              obtain ⟨hP9, hD9⟩ := pd_sub [((a 0), .inr (7, (fX7 (a 1) (a 3) (a 19) (a 35) (a 40) (nI rk) lfa (a 53) (a 56) (a 63) (a 64) (a 68)))), ((a 3), .inl (k 3, 3, .inr (.inr (.inr (.inr (a3 (a 4) (a 9) (a 14))))))), ((a 4), .inr (5, (fX5 (a 5) (a 6) (a 7) (a 8)))), (aI k (a 5) 10 (vv n0 see0 tm0 g0)), (aI k (a 7) 24 fp0), (aI k (a 8) 4 fl0), ((a 9), .inr (5, (fX5 (a 10) (a 11) (a 12) (a 13)))), (aI k (a 10) 10 (vv n1 see1 tm1 g1)), (aI k (a 12) 24 fp1), (aI k (a 13) 4 fl1), ((a 14), .inr (5, (fX5 (a 15) (a 16) (a 17) (a 18)))), (aI k (a 15) 10 (vv n2 see2 tm2 g2)), (aI k (a 17) 24 fp2), (aI k (a 18) 4 fl2), ((a 53), .inr (4, (fX4 (a 54) (a 55) (nI cc) (nI rz) ro sd))), (aI k (a 54) 4 wk), (aI k (a 55) 4 (nF br)), ((a 68), .inr (1, (fX1 (a 53) (a 69) (a 70) (a 71) (nI n2) p1 0 0))), (aI k (a 69) 4 (nF pb__28)), (aI k (a 70) 100 pco__28), (aI k (a 71) 16 pg)] [0, 1, 2, 3, 4, 5, 6, 7, 8, 9, 14, 15, 16, 17, 18, 19, 20, 11, 12, 13, 10] hP hD (by decide +kernel) rfl
              exact W.iret (v := (-1)) hx hb hr (fun t ht hW => ⟨⟨(-1), ((nI n2), p1, 0, 0, pb__28, pco__28), rfl, hw_28, by rw [ht]; exact hP9, hD9⟩, hS.F ht⟩) hS.2.2 dX7_parks_104
            · have c_33 : ¬ (n2 ≤ zp_30) := fun h => c_33 ((nI_leI (a := n2) (b := zp_30) (by omega) (by omega)).mpr h)
              refine lv_iload hx hb dX7_parks_98 (lv_at hl 0 rfl) ?_
              refine lv_goto (tgt := 104) hx hb dX7_parks_100 (by decide) ?_
              obtain ⟨hP9, hD9⟩ := pd_sub [((a 0), .inr (7, (fX7 (a 1) (a 3) (a 19) (a 35) (a 40) (nI rk) lfa (a 53) (a 56) (a 63) (a 64) (a 68)))), ((a 3), .inl (k 3, 3, .inr (.inr (.inr (.inr (a3 (a 4) (a 9) (a 14))))))), ((a 4), .inr (5, (fX5 (a 5) (a 6) (a 7) (a 8)))), (aI k (a 5) 10 (vv n0 see0 tm0 g0)), (aI k (a 7) 24 fp0), (aI k (a 8) 4 fl0), ((a 9), .inr (5, (fX5 (a 10) (a 11) (a 12) (a 13)))), (aI k (a 10) 10 (vv n1 see1 tm1 g1)), (aI k (a 12) 24 fp1), (aI k (a 13) 4 fl1), ((a 14), .inr (5, (fX5 (a 15) (a 16) (a 17) (a 18)))), (aI k (a 15) 10 (vv n2 see2 tm2 g2)), (aI k (a 17) 24 fp2), (aI k (a 18) 4 fl2), ((a 53), .inr (4, (fX4 (a 54) (a 55) (nI cc) (nI rz) ro sd))), (aI k (a 54) 4 wk), (aI k (a 55) 4 (nF br)), ((a 68), .inr (1, (fX1 (a 53) (a 69) (a 70) (a 71) (nI n2) p1 0 0))), (aI k (a 69) 4 (nF pb__28)), (aI k (a 70) 100 pco__28), (aI k (a 71) 16 pg)] [0, 1, 2, 3, 4, 5, 6, 7, 8, 9, 14, 15, 16, 17, 18, 19, 20, 11, 12, 13, 10] hP hD (by decide +kernel) rfl
              exact W.iret (v := (nI zp_30)) hx hb hr (fun t ht hW => ⟨⟨(nI zp_30), ((nI n2), p1, 0, 0, pb__28, pco__28), rfl, hw_28, by rw [ht]; exact hP9, hD9⟩, hS.F ht⟩) hS.2.2 dX7_parks_104
          · refine lv_aload_n hx hb dX7_parks_73 rfl (lv_at hl 1 rfl) ?_
            refine va_get (D := D) (ci := 7) (v := .ref (a 68)) (C := RX7) (T := TX7) (N := 12) hx hb hts inX7 hown hK hP 0 rfl rfl 11 (by decide) (hts _ tw_316) (fun _ h9 => h9) rfl dX7_parks_74 ?_
            refine lv_iload_n hx hb dX7_parks_77 rfl (lv_at hl 4 rfl) ?_
            refine lv_iload hx hb dX7_parks_78 (lv_at hl 0 rfl) ?_
            refine ro_i (D := D) (va_runV (As := [.int (nI ic_25), .int (nI zp_30)]) (rest := []) ⟨hx, hb, hml, hown, hts⟩ ((x_costAt l D k st lo (a 53) (a 68) (a 69) (a 70) (a 71) n2 p1 0 0 pco__28 ic_25 zp_30 (by first | assumption | omega) (by first | assumption | omega)) H.size) (cwV 2 hts (gV tw_842 tw_843 tw_844 tw_84 tw_845) rfl rfl rfl (by decide +kernel) ⟨Nat.le_of_ble_eq_true rfl, Nat.le_of_ble_eq_true rfl⟩) (pV hS hAlo hlo hP hK (va_Dlo hD hAlo) hZ [11, 13] (by decide) rfl (ci := 1) (q := (RX1, TX1, 8)) (q0 := 0) rfl rfl) rfl rfl hl.1 rfl (lv_room (Nat.le_of_ble_eq_true rfl)) dX7_parks_80 ⟨Nat.le_of_ble_eq_true rfl, Nat.le_of_ble_eq_true rfl⟩) hS hA hP (fun r_34 H locs hw_34 hP hS => ?_)
            try dsimp only at hw_34
            obtain ⟨hP9, hD9⟩ := pd_sub [((a 0), .inr (7, (fX7 (a 1) (a 3) (a 19) (a 35) (a 40) (nI rk) lfa (a 53) (a 56) (a 63) (a 64) (a 68)))), ((a 3), .inl (k 3, 3, .inr (.inr (.inr (.inr (a3 (a 4) (a 9) (a 14))))))), ((a 4), .inr (5, (fX5 (a 5) (a 6) (a 7) (a 8)))), (aI k (a 5) 10 (vv n0 see0 tm0 g0)), (aI k (a 7) 24 fp0), (aI k (a 8) 4 fl0), ((a 9), .inr (5, (fX5 (a 10) (a 11) (a 12) (a 13)))), (aI k (a 10) 10 (vv n1 see1 tm1 g1)), (aI k (a 12) 24 fp1), (aI k (a 13) 4 fl1), ((a 14), .inr (5, (fX5 (a 15) (a 16) (a 17) (a 18)))), (aI k (a 15) 10 (vv n2 see2 tm2 g2)), (aI k (a 17) 24 fp2), (aI k (a 18) 4 fl2), ((a 53), .inr (4, (fX4 (a 54) (a 55) (nI cc) (nI rz) ro sd))), (aI k (a 54) 4 wk), (aI k (a 55) 4 (nF br)), ((a 68), .inr (1, (fX1 (a 53) (a 69) (a 70) (a 71) (nI n2) p1 0 0))), (aI k (a 69) 4 (nF pb__28)), (aI k (a 70) 100 pco__28), (aI k (a 71) 16 pg)] [0, 1, 2, 3, 4, 5, 6, 7, 8, 9, 14, 15, 16, 17, 18, 19, 20, 11, 12, 13, 10] hP hD (by decide +kernel) rfl
            exact W.iret (v := r_34) hx hb hr (fun t ht hW => ⟨⟨r_34, ((nI n2), p1, 0, 0, pb__28, pco__28), rfl, hw_28, by rw [ht]; exact hP9, hD9⟩, hS.F ht⟩) hS.2.2 dX7_parks_83
        · refine lv_if_ne (tgt := 43) hx hb dX7_parks_36 (by decide) (fun h => absurd (by decide) h) (fun _ => ?_)
          refine lv_sipush (v := (-1002)) hx hb dX7_parks_39 (by decide) ?_
          obtain ⟨hP9, hD9⟩ := pd_sub [((a 0), .inr (7, (fX7 (a 1) (a 3) (a 19) (a 35) (a 40) (nI rk) lfa (a 53) (a 56) (a 63) (a 64) (a 68)))), ((a 3), .inl (k 3, 3, .inr (.inr (.inr (.inr (a3 (a 4) (a 9) (a 14))))))), ((a 4), .inr (5, (fX5 (a 5) (a 6) (a 7) (a 8)))), (aI k (a 5) 10 (vv n0 see0 tm0 g0)), (aI k (a 7) 24 fp0), (aI k (a 8) 4 fl0), ((a 9), .inr (5, (fX5 (a 10) (a 11) (a 12) (a 13)))), (aI k (a 10) 10 (vv n1 see1 tm1 g1)), (aI k (a 12) 24 fp1), (aI k (a 13) 4 fl1), ((a 14), .inr (5, (fX5 (a 15) (a 16) (a 17) (a 18)))), (aI k (a 15) 10 (vv n2 see2 tm2 g2)), (aI k (a 17) 24 fp2), (aI k (a 18) 4 fl2), ((a 53), .inr (4, (fX4 (a 54) (a 55) (nI cc) (nI rz) ro sd))), (aI k (a 54) 4 wk), (aI k (a 55) 4 (nF br)), ((a 68), .inr (1, (fX1 (a 53) (a 69) (a 70) (a 71) pn pf pd pe))), (aI k (a 69) 4 (nF pb)), (aI k (a 70) 100 pco), (aI k (a 71) 16 pg)] [0, 1, 2, 3, 4, 5, 6, 7, 8, 9, 10, 11, 12, 13, 14, 15, 16, 17, 18, 19, 20] hP hD (by decide +kernel) rfl
          exact W.iret (v := (-1002)) hx hb hr (fun t ht hW => ⟨⟨(-1002), (pn, pf, pd, pe, pb, pco), rfl, hpb, by rw [ht]; exact hP9, hD9⟩, hS.F ht⟩) hS.2.2 dX7_parks_42
      · refine lv_if_eq (tgt := 39) hx hb dX7_parks_26 (by decide) (fun _ => ?_) (fun h => absurd (by decide) h)
        refine lv_sipush (v := (-1002)) hx hb dX7_parks_39 (by decide) ?_
        obtain ⟨hP9, hD9⟩ := pd_sub [((a 0), .inr (7, (fX7 (a 1) (a 3) (a 19) (a 35) (a 40) (nI rk) lfa (a 53) (a 56) (a 63) (a 64) (a 68)))), ((a 3), .inl (k 3, 3, .inr (.inr (.inr (.inr (a3 (a 4) (a 9) (a 14))))))), ((a 4), .inr (5, (fX5 (a 5) (a 6) (a 7) (a 8)))), (aI k (a 5) 10 (vv n0 see0 tm0 g0)), (aI k (a 7) 24 fp0), (aI k (a 8) 4 fl0), ((a 9), .inr (5, (fX5 (a 10) (a 11) (a 12) (a 13)))), (aI k (a 10) 10 (vv n1 see1 tm1 g1)), (aI k (a 12) 24 fp1), (aI k (a 13) 4 fl1), ((a 14), .inr (5, (fX5 (a 15) (a 16) (a 17) (a 18)))), (aI k (a 15) 10 (vv n2 see2 tm2 g2)), (aI k (a 17) 24 fp2), (aI k (a 18) 4 fl2), ((a 53), .inr (4, (fX4 (a 54) (a 55) (nI cc) (nI rz) ro sd))), (aI k (a 54) 4 wk), (aI k (a 55) 4 (nF br)), ((a 68), .inr (1, (fX1 (a 53) (a 69) (a 70) (a 71) pn pf pd pe))), (aI k (a 69) 4 (nF pb)), (aI k (a 70) 100 pco), (aI k (a 71) 16 pg)] [0, 1, 2, 3, 4, 5, 6, 7, 8, 9, 10, 11, 12, 13, 14, 15, 16, 17, 18, 19, 20] hP hD (by decide +kernel) rfl
        exact W.iret (v := (-1002)) hx hb hr (fun t ht hW => ⟨⟨(-1002), (pn, pf, pd, pe, pb, pco), rfl, hpb, by rw [ht]; exact hP9, hD9⟩, hS.F ht⟩) hS.2.2 dX7_parks_42
    · refine lv_if_ne (tgt := 20) hx hb dX7_parks_13 (by decide) (fun h => absurd (by decide) h) (fun _ => ?_)
      refine lv_sipush (v := (-1001)) hx hb dX7_parks_16 (by decide) ?_
      obtain ⟨hP9, hD9⟩ := pd_sub [((a 0), .inr (7, (fX7 (a 1) (a 3) (a 19) (a 35) (a 40) (nI rk) lfa (a 53) (a 56) (a 63) (a 64) (a 68)))), ((a 3), .inl (k 3, 3, .inr (.inr (.inr (.inr (a3 (a 4) (a 9) (a 14))))))), ((a 4), .inr (5, (fX5 (a 5) (a 6) (a 7) (a 8)))), (aI k (a 5) 10 (vv n0 see0 tm0 g0)), (aI k (a 7) 24 fp0), (aI k (a 8) 4 fl0), ((a 9), .inr (5, (fX5 (a 10) (a 11) (a 12) (a 13)))), (aI k (a 10) 10 (vv n1 see1 tm1 g1)), (aI k (a 12) 24 fp1), (aI k (a 13) 4 fl1), ((a 14), .inr (5, (fX5 (a 15) (a 16) (a 17) (a 18)))), (aI k (a 15) 10 (vv n2 see2 tm2 g2)), (aI k (a 17) 24 fp2), (aI k (a 18) 4 fl2), ((a 53), .inr (4, (fX4 (a 54) (a 55) (nI cc) (nI rz) ro sd))), (aI k (a 54) 4 wk), (aI k (a 55) 4 (nF br)), ((a 68), .inr (1, (fX1 (a 53) (a 69) (a 70) (a 71) pn pf pd pe))), (aI k (a 69) 4 (nF pb)), (aI k (a 70) 100 pco), (aI k (a 71) 16 pg)] [0, 1, 2, 3, 4, 5, 6, 7, 8, 9, 10, 11, 12, 13, 14, 15, 16, 17, 18, 19, 20] hP hD (by decide +kernel) rfl
      exact W.iret (v := (-1001)) hx hb hr (fun t ht hW => ⟨⟨(-1001), (pn, pf, pd, pe, pb, pco), rfl, hpb, by rw [ht]; exact hP9, hD9⟩, hS.F ht⟩) hS.2.2 dX7_parks_19
  · refine lv_if_eq (tgt := 16) hx hb dX7_parks_5 (by decide) (fun _ => ?_) (fun h => absurd (by decide) h)
    refine lv_sipush (v := (-1001)) hx hb dX7_parks_16 (by decide) ?_
    obtain ⟨hP9, hD9⟩ := pd_sub [((a 0), .inr (7, (fX7 (a 1) (a 3) (a 19) (a 35) (a 40) (nI rk) lfa (a 53) (a 56) (a 63) (a 64) (a 68)))), ((a 3), .inl (k 3, 3, .inr (.inr (.inr (.inr (a3 (a 4) (a 9) (a 14))))))), ((a 4), .inr (5, (fX5 (a 5) (a 6) (a 7) (a 8)))), (aI k (a 5) 10 (vv n0 see0 tm0 g0)), (aI k (a 7) 24 fp0), (aI k (a 8) 4 fl0), ((a 9), .inr (5, (fX5 (a 10) (a 11) (a 12) (a 13)))), (aI k (a 10) 10 (vv n1 see1 tm1 g1)), (aI k (a 12) 24 fp1), (aI k (a 13) 4 fl1), ((a 14), .inr (5, (fX5 (a 15) (a 16) (a 17) (a 18)))), (aI k (a 15) 10 (vv n2 see2 tm2 g2)), (aI k (a 17) 24 fp2), (aI k (a 18) 4 fl2), ((a 53), .inr (4, (fX4 (a 54) (a 55) (nI cc) (nI rz) ro sd))), (aI k (a 54) 4 wk), (aI k (a 55) 4 (nF br)), ((a 68), .inr (1, (fX1 (a 53) (a 69) (a 70) (a 71) pn pf pd pe))), (aI k (a 69) 4 (nF pb)), (aI k (a 70) 100 pco), (aI k (a 71) 16 pg)] [0, 1, 2, 3, 4, 5, 6, 7, 8, 9, 10, 11, 12, 13, 14, 15, 16, 17, 18, 19, 20] hP hD (by decide +kernel) rfl
    exact W.iret (v := (-1001)) hx hb hr (fun t ht hW => ⟨⟨(-1001), (pn, pf, pd, pe, pb, pco), rfl, hpb, by rw [ht]; exact hP9, hD9⟩, hS.F ht⟩) hS.2.2 dX7_parks_19

theorem dX7_rests_0 : decode cX7_rests 0 = .ok (.aload_n 0, 1) := by decide +kernel
theorem dX7_rests_1 : decode cX7_rests 1 = .ok (.iload_n 1, 1) := by decide +kernel
theorem dX7_rests_2 : decode cX7_rests 2 = .ok (.iload_n 2, 1) := by decide +kernel
theorem dX7_rests_3 : decode cX7_rests 3 = .ok (.invokevirtual 239, 3) := by decide +kernel
theorem dX7_rests_6 : decode cX7_rests 6 = .ok (.istore_n 3, 1) := by decide +kernel
theorem dX7_rests_7 : decode cX7_rests 7 = .ok (.iload_n 3, 1) := by decide +kernel
theorem dX7_rests_8 : decode cX7_rests 8 = .ok (.ifCond .eq 5, 3) := by decide +kernel
theorem dX7_rests_11 : decode cX7_rests 11 = .ok (.iload_n 3, 1) := by decide +kernel
theorem dX7_rests_12 : decode cX7_rests 12 = .ok (.ireturn, 1) := by decide +kernel
theorem dX7_rests_13 : decode cX7_rests 13 = .ok (.aload_n 0, 1) := by decide +kernel
theorem dX7_rests_14 : decode cX7_rests 14 = .ok (.getfield 73, 3) := by decide +kernel
theorem dX7_rests_17 : decode cX7_rests 17 = .ok (.aload_n 0, 1) := by decide +kernel
theorem dX7_rests_18 : decode cX7_rests 18 = .ok (.getfield 18, 3) := by decide +kernel
theorem dX7_rests_21 : decode cX7_rests 21 = .ok (.iload_n 1, 1) := by decide +kernel
theorem dX7_rests_22 : decode cX7_rests 22 = .ok (.aaload, 1) := by decide +kernel
theorem dX7_rests_23 : decode cX7_rests 23 = .ok (.iload_n 2, 1) := by decide +kernel
theorem dX7_rests_24 : decode cX7_rests 24 = .ok (.invokevirtual 229, 3) := by decide +kernel
theorem dX7_rests_27 : decode cX7_rests 27 = .ok (.aload_n 0, 1) := by decide +kernel
theorem dX7_rests_28 : decode cX7_rests 28 = .ok (.getfield 73, 3) := by decide +kernel
theorem dX7_rests_31 : decode cX7_rests 31 = .ok (.invokevirtual 242, 3) := by decide +kernel
theorem dX7_rests_34 : decode cX7_rests 34 = .ok (.ifCond .eq 7, 3) := by decide +kernel
theorem dX7_rests_37 : decode cX7_rests 37 = .ok (.iconst 1, 1) := by decide +kernel
theorem dX7_rests_38 : decode cX7_rests 38 = .ok (.goto 4, 3) := by decide +kernel
theorem dX7_rests_41 : decode cX7_rests 41 = .ok (.iconst 0, 1) := by decide +kernel
theorem dX7_rests_42 : decode cX7_rests 42 = .ok (.ireturn, 1) := by decide +kernel
set_option maxHeartbeats 4000000 in
set_option maxRecDepth 100000 in
theorem x_rests (l : Launch) (D : va_G) (k : Nat → ClassId) (st : Nat → Nat) (lo : Nat) (a : Nat → Nat) (rk : Nat) (lfa : Int32) (n0 : Nat) (see0 : Nat) (tm0 : Nat) (g0 : Nat → Int32) (fp0 : Nat → Int32) (fl0 : Nat → Int32) (n1 : Nat) (see1 : Nat) (tm1 : Nat) (g1 : Nat → Int32) (fp1 : Nat → Int32) (fl1 : Nat → Int32) (n2 : Nat) (see2 : Nat) (tm2 : Nat) (g2 : Nat → Int32) (fp2 : Nat → Int32) (fl2 : Nat → Int32) (cc : Nat) (rz : Nat) (ro : Int32) (sd : Int32) (wk : Nat → Int32) (br : Nat → Nat) (pn : Int32) (pf : Int32) (pd : Int32) (pe : Int32) (pb : Nat → Nat) (pco : Nat → Int32) (pg : Nat → Int32) (p0 : Int32) (p1 : Int32) (hn0 : n0 ≤ 24) (hse0 : see0 ≤ 2) (htm0 : tm0 ≤ 3) (hn1 : n1 ≤ 24) (hse1 : see1 ≤ 2) (htm1 : tm1 ≤ 3) (hn2 : n2 ≤ 24) (hse2 : see2 ≤ 2) (htm2 : tm2 ≤ 3) (hcc : cc ≤ 4) (hbr : ∀ j, br j ≤ 24) (hpb : ∀ j, pb j ≤ 24) : CWi l D k st lo yX7_rests cX7_rests 4 (some .int) ({ frames := 4, cells := 0, slots := 0, locals := 95 }) 0 0 [.ref (a 0), .int p0, .int p1] [((a 0), .inr (7, (fX7 (a 1) (a 3) (a 19) (a 35) (a 40) (nI rk) lfa (a 53) (a 56) (a 63) (a 64) (a 68)))), ((a 3), .inl (k 3, 3, .inr (.inr (.inr (.inr (a3 (a 4) (a 9) (a 14))))))), ((a 4), .inr (5, (fX5 (a 5) (a 6) (a 7) (a 8)))), (aI k (a 5) 10 (vv n0 see0 tm0 g0)), (aI k (a 7) 24 fp0), (aI k (a 8) 4 fl0), ((a 9), .inr (5, (fX5 (a 10) (a 11) (a 12) (a 13)))), (aI k (a 10) 10 (vv n1 see1 tm1 g1)), (aI k (a 12) 24 fp1), (aI k (a 13) 4 fl1), ((a 14), .inr (5, (fX5 (a 15) (a 16) (a 17) (a 18)))), (aI k (a 15) 10 (vv n2 see2 tm2 g2)), (aI k (a 17) 24 fp2), (aI k (a 18) 4 fl2), ((a 53), .inr (4, (fX4 (a 54) (a 55) (nI cc) (nI rz) ro sd))), (aI k (a 54) 4 wk), (aI k (a 55) 4 (nF br)), ((a 68), .inr (1, (fX1 (a 53) (a 69) (a 70) (a 71) pn pf pd pe))), (aI k (a 69) 4 (nF pb)), (aI k (a 70) 100 pco), (aI k (a 71) 16 pg)] (fun (r : Int32) (u : Int32 × Int32 × Int32 × Int32 × (Nat → Nat) × (Nat → Int32)) => match u with | (pn_, pf_, pd_, pe_, pb_, pco_) => ∀ j, pb_ j ≤ 24) (fun (u : Int32 × Int32 × Int32 × Int32 × (Nat → Nat) × (Nat → Int32)) => match u with | (pn_, pf_, pd_, pe_, pb_, pco_) => [((a 0), .inr (7, (fX7 (a 1) (a 3) (a 19) (a 35) (a 40) (nI rk) lfa (a 53) (a 56) (a 63) (a 64) (a 68)))), ((a 3), .inl (k 3, 3, .inr (.inr (.inr (.inr (a3 (a 4) (a 9) (a 14))))))), ((a 4), .inr (5, (fX5 (a 5) (a 6) (a 7) (a 8)))), (aI k (a 5) 10 (vv n0 see0 tm0 g0)), (aI k (a 7) 24 fp0), (aI k (a 8) 4 fl0), ((a 9), .inr (5, (fX5 (a 10) (a 11) (a 12) (a 13)))), (aI k (a 10) 10 (vv n1 see1 tm1 g1)), (aI k (a 12) 24 fp1), (aI k (a 13) 4 fl1), ((a 14), .inr (5, (fX5 (a 15) (a 16) (a 17) (a 18)))), (aI k (a 15) 10 (vv n2 see2 tm2 g2)), (aI k (a 17) 24 fp2), (aI k (a 18) 4 fl2), ((a 53), .inr (4, (fX4 (a 54) (a 55) (nI cc) (nI rz) ro sd))), (aI k (a 54) 4 wk), (aI k (a 55) 4 (nF br)), ((a 68), .inr (1, (fX1 (a 53) (a 69) (a 70) (a 71) pn_ pf_ pd_ pe_))), (aI k (a 69) 4 (nF pb_)), (aI k (a 70) 100 pco_), (aI k (a 71) 16 pg)]) := by
  intro sz
  refine Met.ofW (cc := cX7_rests) (maxL := 4) (ret := (some .int)) (by decide) rfl ?_
  intro p e s m args below meth c s₁ B hml hv
  obtain ⟨rfl, hsz, hlo, hP, hK, hDL, hZ⟩ := hv
  have hx := B.exec
  have hb := B.bytes
  have hr := B.returns
  have hts := WS_ts B.pre
  have hown : s.vm.findClass RX7 = some m.cls := findClass_of_methodNamed B.named
  have hlocks := B.notSynchronized
  subst hsz
  have hD := hDL.self (sz := s.heap.size)
  have hAlo := A_lo hDL hlo
  generalize hAe : va_A [((a 0), .inr (7, (fX7 (a 1) (a 3) (a 19) (a 35) (a 40) (nI rk) lfa (a 53) (a 56) (a 63) (a 64) (a 68)))), ((a 3), .inl (k 3, 3, .inr (.inr (.inr (.inr (a3 (a 4) (a 9) (a 14))))))), ((a 4), .inr (5, (fX5 (a 5) (a 6) (a 7) (a 8)))), (aI k (a 5) 10 (vv n0 see0 tm0 g0)), (aI k (a 7) 24 fp0), (aI k (a 8) 4 fl0), ((a 9), .inr (5, (fX5 (a 10) (a 11) (a 12) (a 13)))), (aI k (a 10) 10 (vv n1 see1 tm1 g1)), (aI k (a 12) 24 fp1), (aI k (a 13) 4 fl1), ((a 14), .inr (5, (fX5 (a 15) (a 16) (a 17) (a 18)))), (aI k (a 15) 10 (vv n2 see2 tm2 g2)), (aI k (a 17) 24 fp2), (aI k (a 18) 4 fl2), ((a 53), .inr (4, (fX4 (a 54) (a 55) (nI cc) (nI rz) ro sd))), (aI k (a 54) 4 wk), (aI k (a 55) 4 (nF br)), ((a 68), .inr (1, (fX1 (a 53) (a 69) (a 70) (a 71) pn pf pd pe))), (aI k (a 69) 4 (nF pb)), (aI k (a 70) 100 pco), (aI k (a 71) 16 pg)] s.heap.size = A at hD hAlo ⊢
  have hA : ∀ q : Nat, s.heap.size ≤ q → A q := fun q h => by rw [← hAe]; exact Or.inr h
  have hS : va_S A s.heap s.heap [] := va_S.rf
  have hl := lv_entry ([.ref (a 0), .int p0, .int p1]) (n := 4) (Nat.le_of_ble_eq_true rfl)
  rw [lg_entry_eq]
  generalize (lg_sl ([.ref (a 0), .int p0, .int p1]) ++ List.replicate (4 - (lg_sl ([.ref (a 0), .int p0, .int p1])).length) Slot.unset).toArray = ls at hl ⊢
  have hl : lv_has ls 4 [(0, .ref (a 0)), (1, .int p0), (2, .int p1)] := hl
  refine lv_aload_n hx hb dX7_rests_0 rfl (lv_at hl 0 rfl) ?_
  refine lv_iload_n hx hb dX7_rests_1 rfl (lv_at hl 1 rfl) ?_
  refine lv_iload_n hx hb dX7_rests_2 rfl (lv_at hl 2 rfl) ?_
  refine ro_i (D := D) (va_runV (As := [.int p0, .int p1]) (rest := []) ⟨hx, hb, hml, hown, hts⟩ ((x_refuseSet l D k st lo a rk lfa n0 see0 tm0 g0 n1 see1 tm1 g1 n2 see2 tm2 g2 p0 p1 (by first | assumption | omega) (by first | assumption | omega) (by first | assumption | omega)) s.heap.size) (cwV 2 hts (gV tw_850 tw_852 tw_21 tw_79 tw_853) rfl rfl rfl (by decide +kernel) ⟨Nat.le_of_ble_eq_true rfl, Nat.le_of_ble_eq_true rfl⟩) (pV hS hAlo hlo hP hK (va_Dlo hD hAlo) hZ [0, 1, 2, 3, 6, 7, 10, 11] (by decide) rfl (ci := 7) (q := (RX7, TX7, 12)) (q0 := 0) rfl rfl) rfl rfl hl.1 rfl (lv_room (Nat.le_of_ble_eq_true rfl)) dX7_rests_3 ⟨Nat.le_of_ble_eq_true rfl, Nat.le_of_ble_eq_true rfl⟩) hS hA hP (fun r_1 H locs hw_1 hP hS => ?_)
  try dsimp only at hw_1
  rcases hw_1 with ⟨rfl, rfl | rfl | rfl⟩ | rfl | rfl
  · refine lv_istore_n (lv' := [(3, .int 0), (0, .ref (a 0)), (1, .int 0), (2, .int p1)]) hx hb dX7_rests_6 rfl hl (by decide) rfl (fun ls hl => ?_)
    refine lv_iload_n hx hb dX7_rests_7 rfl (lv_at hl 0 rfl) ?_
    refine lv_if_eq (tgt := 13) hx hb dX7_rests_8 (by decide) (fun _ => ?_) (fun h => absurd (by decide) h)
    refine lv_aload_n hx hb dX7_rests_13 rfl (lv_at hl 1 rfl) ?_
    refine va_get (D := D) (ci := 7) (v := .ref (a 68)) (C := RX7) (T := TX7) (N := 12) hx hb hts inX7 hown hK hP 0 rfl rfl 11 (by decide) (hts _ tw_316) (fun _ h9 => h9) rfl dX7_rests_14 ?_
    refine lv_aload_n hx hb dX7_rests_17 rfl (lv_at hl 1 rfl) ?_
    refine va_get (D := D) (ci := 7) (v := .ref (a 3)) (C := RX7) (T := TX7) (N := 12) hx hb hts inX7 hown hK hP 0 rfl rfl 1 (by decide) (hts _ tw_306) (fun _ h9 => h9) rfl dX7_rests_18 ?_
    refine lv_iload_n hx hb dX7_rests_21 rfl (lv_at hl 2 rfl) ?_
    refine va_aldq hx hb hK hP 1 3 rfl rfl (by unfold vp_in; decide) dX7_rests_22 ?_
    refine lv_tr (y := .ref (a 4)) rfl ?_
    refine lv_iload_n hx hb dX7_rests_23 rfl (lv_at hl 3 rfl) ?_
    refine rw_v (D := D) (wr := [((a 0), .inr (7, (fX7 (a 1) (a 3) (a 19) (a 35) (a 40) (nI rk) lfa (a 53) (a 56) (a 63) (a 64) (a 68)))), ((a 3), .inl (k 3, 3, .inr (.inr (.inr (.inr (a3 (a 4) (a 9) (a 14))))))), ((a 9), .inr (5, (fX5 (a 10) (a 11) (a 12) (a 13)))), (aI k (a 10) 10 (vv n1 see1 tm1 g1)), (aI k (a 12) 24 fp1), (aI k (a 13) 4 fl1), ((a 14), .inr (5, (fX5 (a 15) (a 16) (a 17) (a 18)))), (aI k (a 15) 10 (vv n2 see2 tm2 g2)), (aI k (a 17) 24 fp2), (aI k (a 18) 4 fl2), (aI k (a 71) 16 pg)]) (va_runV (As := [.ref (a 4), .int p1]) (rest := []) ⟨hx, hb, hml, hown, hts⟩ ((x_comeTo l D k st lo (a 53) (a 68) (a 69) (a 70) (a 71) pn pf pd pe pb pco (a 4) (a 5) (a 6) (a 7) (a 8) n0 see0 tm0 g0 fp0 fl0 (a 54) (a 55) cc rz ro sd wk br p1 (by first | assumption | omega) (by first | assumption | omega) hbr hpb) H.size) (cwV 2 hts (gV tw_821 tw_822 tw_823 tw_84 tw_824) rfl rfl rfl (by decide +kernel) ⟨Nat.le_of_ble_eq_true rfl, Nat.le_of_ble_eq_true rfl⟩) (pV hS hAlo hlo hP hK (va_Dlo hD hAlo) hZ [17, 18, 19, 2, 3, 4, 5, 14, 15, 16] (by decide +kernel) rfl (ci := 1) (q := (RX1, TX1, 8)) (q0 := 0) rfl rfl) rfl rfl hl.1 rfl (lv_room (Nat.le_of_ble_eq_true rfl)) dX7_rests_24 ⟨Nat.le_of_ble_eq_true rfl, Nat.le_of_ble_eq_true rfl⟩) hS hA hP hD [17, 18, 19, 2, 3, 4, 5, 14, 15, 16] [0, 1, 6, 7, 8, 9, 10, 11, 12, 13, 20] rfl rfl (by decide +kernel) (by decide +kernel) (fun u H locs hw_2 hP hD hS => ?_)
    obtain ⟨pb__2, pco__2⟩ := u
    have hQ9 := pd_mk [((a 0), .inr (7, (fX7 (a 1) (a 3) (a 19) (a 35) (a 40) (nI rk) lfa (a 53) (a 56) (a 63) (a 64) (a 68)))), ((a 3), .inl (k 3, 3, .inr (.inr (.inr (.inr (a3 (a 4) (a 9) (a 14))))))), ((a 9), .inr (5, (fX5 (a 10) (a 11) (a 12) (a 13)))), (aI k (a 10) 10 (vv n1 see1 tm1 g1)), (aI k (a 12) 24 fp1), (aI k (a 13) 4 fl1), ((a 14), .inr (5, (fX5 (a 15) (a 16) (a 17) (a 18)))), (aI k (a 15) 10 (vv n2 see2 tm2 g2)), (aI k (a 17) 24 fp2), (aI k (a 18) 4 fl2), (aI k (a 71) 16 pg), ((a 68), .inr (1, (fX1 (a 53) (a 69) (a 70) (a 71) (nI n0) p1 0 0))), (aI k (a 69) 4 (nF pb__2)), (aI k (a 70) 100 pco__2), ((a 4), .inr (5, (fX5 (a 5) (a 6) (a 7) (a 8)))), (aI k (a 5) 10 (vv n0 see0 tm0 g0)), (aI k (a 7) 24 fp0), (aI k (a 8) 4 fl0), ((a 53), .inr (4, (fX4 (a 54) (a 55) (nI cc) (nI rz) ro sd))), (aI k (a 54) 4 wk), (aI k (a 55) 4 (nF br))] hP hD
    clear hP hD
    obtain ⟨hP, hD⟩ := hQ9
    try dsimp only at hw_2
    refine lv_aload_n hx hb dX7_rests_27 rfl (lv_at hl 1 rfl) ?_
    refine va_get (D := D) (ci := 7) (v := .ref (a 68)) (C := RX7) (T := TX7) (N := 12) hx hb hts inX7 hown hK hP 0 rfl rfl 11 (by decide) (hts _ tw_316) (fun _ h9 => h9) rfl dX7_rests_28 ?_
    refine ro_i (D := D) (va_runV (As := []) (rest := []) ⟨hx, hb, hml, hown, hts⟩ ((x_isAtRest l D k st lo (a 53) (a 68) (a 69) (a 70) (a 71) n0 p1 0 0 pb__2 pco__2 (a 54) (a 55) cc rz ro sd (by first | assumption | omega) (by first | assumption | omega) hw_2) H.size) (cwV 0 hts (gV tw_854 tw_855 tw_856 tw_84 tw_857) rfl rfl rfl (by decide +kernel) ⟨Nat.le_of_ble_eq_true rfl, Nat.le_of_ble_eq_true rfl⟩) (pV hS hAlo hlo hP hK (va_Dlo hD hAlo) hZ [11, 12, 13, 18] (by decide) rfl (ci := 1) (q := (RX1, TX1, 8)) (q0 := 0) rfl rfl) rfl rfl hl.1 rfl (lv_room (Nat.le_of_ble_eq_true rfl)) dX7_rests_31 ⟨Nat.le_of_ble_eq_true rfl, Nat.le_of_ble_eq_true rfl⟩) hS hA hP (fun r_3 H locs hw_3 hP hS => ?_)
    try dsimp only at hw_3
    rcases hw_3 with rfl | rfl
    · refine lv_if_eq (tgt := 41) hx hb dX7_rests_34 (by decide) (fun h => absurd h (by decide)) (fun _ => ?_)
      refine lv_iconst (v := 1) hx hb dX7_rests_37 (by decide) ?_
      refine lv_goto (tgt := 42) hx hb dX7_rests_38 (by decide) ?_
      obtain ⟨hP9, hD9⟩ := pd_sub [((a 0), .inr (7, (fX7 (a 1) (a 3) (a 19) (a 35) (a 40) (nI rk) lfa (a 53) (a 56) (a 63) (a 64) (a 68)))), ((a 3), .inl (k 3, 3, .inr (.inr (.inr (.inr (a3 (a 4) (a 9) (a 14))))))), ((a 4), .inr (5, (fX5 (a 5) (a 6) (a 7) (a 8)))), (aI k (a 5) 10 (vv n0 see0 tm0 g0)), (aI k (a 7) 24 fp0), (aI k (a 8) 4 fl0), ((a 9), .inr (5, (fX5 (a 10) (a 11) (a 12) (a 13)))), (aI k (a 10) 10 (vv n1 see1 tm1 g1)), (aI k (a 12) 24 fp1), (aI k (a 13) 4 fl1), ((a 14), .inr (5, (fX5 (a 15) (a 16) (a 17) (a 18)))), (aI k (a 15) 10 (vv n2 see2 tm2 g2)), (aI k (a 17) 24 fp2), (aI k (a 18) 4 fl2), ((a 53), .inr (4, (fX4 (a 54) (a 55) (nI cc) (nI rz) ro sd))), (aI k (a 54) 4 wk), (aI k (a 55) 4 (nF br)), ((a 68), .inr (1, (fX1 (a 53) (a 69) (a 70) (a 71) (nI n0) p1 0 0))), (aI k (a 69) 4 (nF pb__2)), (aI k (a 70) 100 pco__2), (aI k (a 71) 16 pg)] [0, 1, 14, 15, 16, 17, 2, 3, 4, 5, 6, 7, 8, 9, 18, 19, 20, 11, 12, 13, 10] hP hD (by decide +kernel) rfl
      exact W.iret (v := 1) hx hb hr (fun t ht hW => ⟨⟨1, ((nI n0), p1, 0, 0, pb__2, pco__2), rfl, hw_2, by rw [ht]; exact hP9, hD9⟩, hS.F ht⟩) hS.2.2 dX7_rests_42
    · refine lv_if_eq (tgt := 41) hx hb dX7_rests_34 (by decide) (fun _ => ?_) (fun h => absurd (by decide) h)
      refine lv_iconst (v := 0) hx hb dX7_rests_41 (by decide) ?_
      obtain ⟨hP9, hD9⟩ := pd_sub [((a 0), .inr (7, (fX7 (a 1) (a 3) (a 19) (a 35) (a 40) (nI rk) lfa (a 53) (a 56) (a 63) (a 64) (a 68)))), ((a 3), .inl (k 3, 3, .inr (.inr (.inr (.inr (a3 (a 4) (a 9) (a 14))))))), ((a 4), .inr (5, (fX5 (a 5) (a 6) (a 7) (a 8)))), (aI k (a 5) 10 (vv n0 see0 tm0 g0)), (aI k (a 7) 24 fp0), (aI k (a 8) 4 fl0), ((a 9), .inr (5, (fX5 (a 10) (a 11) (a 12) (a 13)))), (aI k (a 10) 10 (vv n1 see1 tm1 g1)), (aI k (a 12) 24 fp1), (aI k (a 13) 4 fl1), ((a 14), .inr (5, (fX5 (a 15) (a 16) (a 17) (a 18)))), (aI k (a 15) 10 (vv n2 see2 tm2 g2)), (aI k (a 17) 24 fp2), (aI k (a 18) 4 fl2), ((a 53), .inr (4, (fX4 (a 54) (a 55) (nI cc) (nI rz) ro sd))), (aI k (a 54) 4 wk), (aI k (a 55) 4 (nF br)), ((a 68), .inr (1, (fX1 (a 53) (a 69) (a 70) (a 71) (nI n0) p1 0 0))), (aI k (a 69) 4 (nF pb__2)), (aI k (a 70) 100 pco__2), (aI k (a 71) 16 pg)] [0, 1, 14, 15, 16, 17, 2, 3, 4, 5, 6, 7, 8, 9, 18, 19, 20, 11, 12, 13, 10] hP hD (by decide +kernel) rfl
      exact W.iret (v := 0) hx hb hr (fun t ht hW => ⟨⟨0, ((nI n0), p1, 0, 0, pb__2, pco__2), rfl, hw_2, by rw [ht]; exact hP9, hD9⟩, hS.F ht⟩) hS.2.2 dX7_rests_42
  · refine lv_istore_n (lv' := [(3, .int 0), (0, .ref (a 0)), (1, .int 1), (2, .int p1)]) hx hb dX7_rests_6 rfl hl (by decide) rfl (fun ls hl => ?_)
    refine lv_iload_n hx hb dX7_rests_7 rfl (lv_at hl 0 rfl) ?_
    refine lv_if_eq (tgt := 13) hx hb dX7_rests_8 (by decide) (fun _ => ?_) (fun h => absurd (by decide) h)
    refine lv_aload_n hx hb dX7_rests_13 rfl (lv_at hl 1 rfl) ?_
    refine va_get (D := D) (ci := 7) (v := .ref (a 68)) (C := RX7) (T := TX7) (N := 12) hx hb hts inX7 hown hK hP 0 rfl rfl 11 (by decide) (hts _ tw_316) (fun _ h9 => h9) rfl dX7_rests_14 ?_
    refine lv_aload_n hx hb dX7_rests_17 rfl (lv_at hl 1 rfl) ?_
    refine va_get (D := D) (ci := 7) (v := .ref (a 3)) (C := RX7) (T := TX7) (N := 12) hx hb hts inX7 hown hK hP 0 rfl rfl 1 (by decide) (hts _ tw_306) (fun _ h9 => h9) rfl dX7_rests_18 ?_
    refine lv_iload_n hx hb dX7_rests_21 rfl (lv_at hl 2 rfl) ?_
    refine va_aldq hx hb hK hP 1 3 rfl rfl (by unfold vp_in; decide) dX7_rests_22 ?_
    refine lv_tr (y := .ref (a 9)) rfl ?_
    refine lv_iload_n hx hb dX7_rests_23 rfl (lv_at hl 3 rfl) ?_
    refine rw_v (D := D) (wr := [((a 0), .inr (7, (fX7 (a 1) (a 3) (a 19) (a 35) (a 40) (nI rk) lfa (a 53) (a 56) (a 63) (a 64) (a 68)))), ((a 3), .inl (k 3, 3, .inr (.inr (.inr (.inr (a3 (a 4) (a 9) (a 14))))))), ((a 4), .inr (5, (fX5 (a 5) (a 6) (a 7) (a 8)))), (aI k (a 5) 10 (vv n0 see0 tm0 g0)), (aI k (a 7) 24 fp0), (aI k (a 8) 4 fl0), ((a 14), .inr (5, (fX5 (a 15) (a 16) (a 17) (a 18)))), (aI k (a 15) 10 (vv n2 see2 tm2 g2)), (aI k (a 17) 24 fp2), (aI k (a 18) 4 fl2), (aI k (a 71) 16 pg)]) (va_runV (As := [.ref (a 9), .int p1]) (rest := []) ⟨hx, hb, hml, hown, hts⟩ ((x_comeTo l D k st lo (a 53) (a 68) (a 69) (a 70) (a 71) pn pf pd pe pb pco (a 9) (a 10) (a 11) (a 12) (a 13) n1 see1 tm1 g1 fp1 fl1 (a 54) (a 55) cc rz ro sd wk br p1 (by first | assumption | omega) (by first | assumption | omega) hbr hpb) H.size) (cwV 2 hts (gV tw_821 tw_822 tw_823 tw_84 tw_824) rfl rfl rfl (by decide +kernel) ⟨Nat.le_of_ble_eq_true rfl, Nat.le_of_ble_eq_true rfl⟩) (pV hS hAlo hlo hP hK (va_Dlo hD hAlo) hZ [17, 18, 19, 6, 7, 8, 9, 14, 15, 16] (by decide +kernel) rfl (ci := 1) (q := (RX1, TX1, 8)) (q0 := 0) rfl rfl) rfl rfl hl.1 rfl (lv_room (Nat.le_of_ble_eq_true rfl)) dX7_rests_24 ⟨Nat.le_of_ble_eq_true rfl, Nat.le_of_ble_eq_true rfl⟩) hS hA hP hD [17, 18, 19, 6, 7, 8, 9, 14, 15, 16] [0, 1, 2, 3, 4, 5, 10, 11, 12, 13, 20] rfl rfl (by decide +kernel) (by decide +kernel) (fun u H locs hw_4 hP hD hS => ?_)
    obtain ⟨pb__4, pco__4⟩ := u
    have hQ9 := pd_mk [((a 0), .inr (7, (fX7 (a 1) (a 3) (a 19) (a 35) (a 40) (nI rk) lfa (a 53) (a 56) (a 63) (a 64) (a 68)))), ((a 3), .inl (k 3, 3, .inr (.inr (.inr (.inr (a3 (a 4) (a 9) (a 14))))))), ((a 4), .inr (5, (fX5 (a 5) (a 6) (a 7) (a 8)))), (aI k (a 5) 10 (vv n0 see0 tm0 g0)), (aI k (a 7) 24 fp0), (aI k (a 8) 4 fl0), ((a 14), .inr (5, (fX5 (a 15) (a 16) (a 17) (a 18)))), (aI k (a 15) 10 (vv n2 see2 tm2 g2)), (aI k (a 17) 24 fp2), (aI k (a 18) 4 fl2), (aI k (a 71) 16 pg), ((a 68), .inr (1, (fX1 (a 53) (a 69) (a 70) (a 71) (nI n1) p1 0 0))), (aI k (a 69) 4 (nF pb__4)), (aI k (a 70) 100 pco__4), ((a 9), .inr (5, (fX5 (a 10) (a 11) (a 12) (a 13)))), (aI k (a 10) 10 (vv n1 see1 tm1 g1)), (aI k (a 12) 24 fp1), (aI k (a 13) 4 fl1), ((a 53), .inr (4, (fX4 (a 54) (a 55) (nI cc) (nI rz) ro sd))), (aI k (a 54) 4 wk), (aI k (a 55) 4 (nF br))] hP hD
    clear hP hD
    obtain ⟨hP, hD⟩ := hQ9
    try dsimp only at hw_4
    refine lv_aload_n hx hb dX7_rests_27 rfl (lv_at hl 1 rfl) ?_
    refine va_get (D := D) (ci := 7) (v := .ref (a 68)) (C := RX7) (T := TX7) (N := 12) hx hb hts inX7 hown hK hP 0 rfl rfl 11 (by decide) (hts _ tw_316) (fun _ h9 => h9) rfl dX7_rests_28 ?_
    refine ro_i (D := D) (va_runV (As := []) (rest := []) ⟨hx, hb, hml, hown, hts⟩ ((x_isAtRest l D k st lo (a 53) (a 68) (a 69) (a 70) (a 71) n1 p1 0 0 pb__4 pco__4 (a 54) (a 55) cc rz ro sd (by first | assumption | omega) (by first | assumption | omega) hw_4) H.size) (cwV 0 hts (gV tw_854 tw_855 tw_856 tw_84 tw_857) rfl rfl rfl (by decide +kernel) ⟨Nat.le_of_ble_eq_true rfl, Nat.le_of_ble_eq_true rfl⟩) (pV hS hAlo hlo hP hK (va_Dlo hD hAlo) hZ [11, 12, 13, 18] (by decide) rfl (ci := 1) (q := (RX1, TX1, 8)) (q0 := 0) rfl rfl) rfl rfl hl.1 rfl (lv_room (Nat.le_of_ble_eq_true rfl)) dX7_rests_31 ⟨Nat.le_of_ble_eq_true rfl, Nat.le_of_ble_eq_true rfl⟩) hS hA hP (fun r_5 H locs hw_5 hP hS => ?_)
    try dsimp only at hw_5
    rcases hw_5 with rfl | rfl
    · refine lv_if_eq (tgt := 41) hx hb dX7_rests_34 (by decide) (fun h => absurd h (by decide)) (fun _ => ?_)
      refine lv_iconst (v := 1) hx hb dX7_rests_37 (by decide) ?_
      refine lv_goto (tgt := 42) hx hb dX7_rests_38 (by decide) ?_
      obtain ⟨hP9, hD9⟩ := pd_sub [((a 0), .inr (7, (fX7 (a 1) (a 3) (a 19) (a 35) (a 40) (nI rk) lfa (a 53) (a 56) (a 63) (a 64) (a 68)))), ((a 3), .inl (k 3, 3, .inr (.inr (.inr (.inr (a3 (a 4) (a 9) (a 14))))))), ((a 4), .inr (5, (fX5 (a 5) (a 6) (a 7) (a 8)))), (aI k (a 5) 10 (vv n0 see0 tm0 g0)), (aI k (a 7) 24 fp0), (aI k (a 8) 4 fl0), ((a 9), .inr (5, (fX5 (a 10) (a 11) (a 12) (a 13)))), (aI k (a 10) 10 (vv n1 see1 tm1 g1)), (aI k (a 12) 24 fp1), (aI k (a 13) 4 fl1), ((a 14), .inr (5, (fX5 (a 15) (a 16) (a 17) (a 18)))), (aI k (a 15) 10 (vv n2 see2 tm2 g2)), (aI k (a 17) 24 fp2), (aI k (a 18) 4 fl2), ((a 53), .inr (4, (fX4 (a 54) (a 55) (nI cc) (nI rz) ro sd))), (aI k (a 54) 4 wk), (aI k (a 55) 4 (nF br)), ((a 68), .inr (1, (fX1 (a 53) (a 69) (a 70) (a 71) (nI n1) p1 0 0))), (aI k (a 69) 4 (nF pb__4)), (aI k (a 70) 100 pco__4), (aI k (a 71) 16 pg)] [0, 1, 2, 3, 4, 5, 14, 15, 16, 17, 6, 7, 8, 9, 18, 19, 20, 11, 12, 13, 10] hP hD (by decide +kernel) rfl
      exact W.iret (v := 1) hx hb hr (fun t ht hW => ⟨⟨1, ((nI n1), p1, 0, 0, pb__4, pco__4), rfl, hw_4, by rw [ht]; exact hP9, hD9⟩, hS.F ht⟩) hS.2.2 dX7_rests_42
    · refine lv_if_eq (tgt := 41) hx hb dX7_rests_34 (by decide) (fun _ => ?_) (fun h => absurd (by decide) h)
      refine lv_iconst (v := 0) hx hb dX7_rests_41 (by decide) ?_
      obtain ⟨hP9, hD9⟩ := pd_sub [((a 0), .inr (7, (fX7 (a 1) (a 3) (a 19) (a 35) (a 40) (nI rk) lfa (a 53) (a 56) (a 63) (a 64) (a 68)))), ((a 3), .inl (k 3, 3, .inr (.inr (.inr (.inr (a3 (a 4) (a 9) (a 14))))))), ((a 4), .inr (5, (fX5 (a 5) (a 6) (a 7) (a 8)))), (aI k (a 5) 10 (vv n0 see0 tm0 g0)), (aI k (a 7) 24 fp0), (aI k (a 8) 4 fl0), ((a 9), .inr (5, (fX5 (a 10) (a 11) (a 12) (a 13)))), (aI k (a 10) 10 (vv n1 see1 tm1 g1)), (aI k (a 12) 24 fp1), (aI k (a 13) 4 fl1), ((a 14), .inr (5, (fX5 (a 15) (a 16) (a 17) (a 18)))), (aI k (a 15) 10 (vv n2 see2 tm2 g2)), (aI k (a 17) 24 fp2), (aI k (a 18) 4 fl2), ((a 53), .inr (4, (fX4 (a 54) (a 55) (nI cc) (nI rz) ro sd))), (aI k (a 54) 4 wk), (aI k (a 55) 4 (nF br)), ((a 68), .inr (1, (fX1 (a 53) (a 69) (a 70) (a 71) (nI n1) p1 0 0))), (aI k (a 69) 4 (nF pb__4)), (aI k (a 70) 100 pco__4), (aI k (a 71) 16 pg)] [0, 1, 2, 3, 4, 5, 14, 15, 16, 17, 6, 7, 8, 9, 18, 19, 20, 11, 12, 13, 10] hP hD (by decide +kernel) rfl
      exact W.iret (v := 0) hx hb hr (fun t ht hW => ⟨⟨0, ((nI n1), p1, 0, 0, pb__4, pco__4), rfl, hw_4, by rw [ht]; exact hP9, hD9⟩, hS.F ht⟩) hS.2.2 dX7_rests_42
  · refine lv_istore_n (lv' := [(3, .int 0), (0, .ref (a 0)), (1, .int 2), (2, .int p1)]) hx hb dX7_rests_6 rfl hl (by decide) rfl (fun ls hl => ?_)
    refine lv_iload_n hx hb dX7_rests_7 rfl (lv_at hl 0 rfl) ?_
    refine lv_if_eq (tgt := 13) hx hb dX7_rests_8 (by decide) (fun _ => ?_) (fun h => absurd (by decide) h)
    refine lv_aload_n hx hb dX7_rests_13 rfl (lv_at hl 1 rfl) ?_
    refine va_get (D := D) (ci := 7) (v := .ref (a 68)) (C := RX7) (T := TX7) (N := 12) hx hb hts inX7 hown hK hP 0 rfl rfl 11 (by decide) (hts _ tw_316) (fun _ h9 => h9) rfl dX7_rests_14 ?_
    refine lv_aload_n hx hb dX7_rests_17 rfl (lv_at hl 1 rfl) ?_
    refine va_get (D := D) (ci := 7) (v := .ref (a 3)) (C := RX7) (T := TX7) (N := 12) hx hb hts inX7 hown hK hP 0 rfl rfl 1 (by decide) (hts _ tw_306) (fun _ h9 => h9) rfl dX7_rests_18 ?_
    refine lv_iload_n hx hb dX7_rests_21 rfl (lv_at hl 2 rfl) ?_
    refine va_aldq hx hb hK hP 1 3 rfl rfl (by unfold vp_in; decide) dX7_rests_22 ?_
    refine lv_tr (y := .ref (a 14)) rfl ?_
    refine lv_iload_n hx hb dX7_rests_23 rfl (lv_at hl 3 rfl) ?_
    refine rw_v (D := D) (wr := [((a 0), .inr (7, (fX7 (a 1) (a 3) (a 19) (a 35) (a 40) (nI rk) lfa (a 53) (a 56) (a 63) (a 64) (a 68)))), ((a 3), .inl (k 3, 3, .inr (.inr (.inr (.inr (a3 (a 4) (a 9) (a 14))))))), ((a 4), .inr (5, (fX5 (a 5) (a 6) (a 7) (a 8)))), (aI k (a 5) 10 (vv n0 see0 tm0 g0)), (aI k (a 7) 24 fp0), (aI k (a 8) 4 fl0), ((a 9), .inr (5, (fX5 (a 10) (a 11) (a 12) (a 13)))), (aI k (a 10) 10 (vv n1 see1 tm1 g1)), (aI k (a 12) 24 fp1), (aI k (a 13) 4 fl1), (aI k (a 71) 16 pg)]) (va_runV (As := [.ref (a 14), .int p1]) (rest := []) ⟨hx, hb, hml, hown, hts⟩ ((x_comeTo l D k st lo (a 53) (a 68) (a 69) (a 70) (a 71) pn pf pd pe pb pco (a 14) (a 15) (a 16) (a 17) (a 18) n2 see2 tm2 g2 fp2 fl2 (a 54) (a 55) cc rz ro sd wk br p1 (by first | assumption | omega) (by first | assumption | omega) hbr hpb) H.size) (cwV 2 hts (gV tw_821 tw_822 tw_823 tw_84 tw_824) rfl rfl rfl (by decide +kernel) ⟨Nat.le_of_ble_eq_true rfl, Nat.le_of_ble_eq_true rfl⟩) (pV hS hAlo hlo hP hK (va_Dlo hD hAlo) hZ [17, 18, 19, 10, 11, 12, 13, 14, 15, 16] (by decide +kernel) rfl (ci := 1) (q := (RX1, TX1, 8)) (q0 := 0) rfl rfl) rfl rfl hl.1 rfl (lv_room (Nat.le_of_ble_eq_true rfl)) dX7_rests_24 ⟨Nat.le_of_ble_eq_true rfl, Nat.le_of_ble_eq_true rfl⟩) hS hA hP hD [17, 18, 19, 10, 11, 12, 13, 14, 15, 16] [0, 1, 2, 3, 4, 5, 6, 7, 8, 9, 20] rfl rfl (by decide +kernel) (by decide +kernel) (fun u H locs hw_6 hP hD hS => ?_)
    obtain ⟨pb__6, pco__6⟩ := u
    have hQ9 := pd_mk [((a 0), .inr (7, (fX7 (a 1) (a 3) (a 19) (a 35) (a 40) (nI rk) lfa (a 53) (a 56) (a 63) (a 64) (a 68)))), ((a 3), .inl (k 3, 3, .inr (.inr (.inr (.inr (a3 (a 4) (a 9) (a 14))))))), ((a 4), .inr (5, (fX5 (a 5) (a 6) (a 7) (a 8)))), (aI k (a 5) 10 (vv n0 see0 tm0 g0)), (aI k (a 7) 24 fp0), (aI k (a 8) 4 fl0), ((a 9), .inr (5, (fX5 (a 10) (a 11) (a 12) (a 13)))), (aI k (a 10) 10 (vv n1 see1 tm1 g1)), (aI k (a 12) 24 fp1), (aI k (a 13) 4 fl1), (aI k (a 71) 16 pg), ((a 68), .inr (1, (fX1 (a 53) (a 69) (a 70) (a 71) (nI n2) p1 0 0))), (aI k (a 69) 4 (nF pb__6)), (aI k (a 70) 100 pco__6), ((a 14), .inr (5, (fX5 (a 15) (a 16) (a 17) (a 18)))), (aI k (a 15) 10 (vv n2 see2 tm2 g2)), (aI k (a 17) 24 fp2), (aI k (a 18) 4 fl2), ((a 53), .inr (4, (fX4 (a 54) (a 55) (nI cc) (nI rz) ro sd))), (aI k (a 54) 4 wk), (aI k (a 55) 4 (nF br))] hP hD
    clear hP hD
    obtain ⟨hP, hD⟩ := hQ9
    try dsimp only at hw_6
    refine lv_aload_n hx hb dX7_rests_27 rfl (lv_at hl 1 rfl) ?_
    refine va_get (D := D) (ci := 7) (v := .ref (a 68)) (C := RX7) (T := TX7) (N := 12) hx hb hts inX7 hown hK hP 0 rfl rfl 11 (by decide) (hts _ tw_316) (fun _ h9 => h9) rfl dX7_rests_28 ?_
    refine ro_i (D := D) (va_runV (As := []) (rest := []) ⟨hx, hb, hml, hown, hts⟩ ((x_isAtRest l D k st lo (a 53) (a 68) (a 69) (a 70) (a 71) n2 p1 0 0 pb__6 pco__6 (a 54) (a 55) cc rz ro sd (by first | assumption | omega) (by first | assumption | omega) hw_6) H.size) (cwV 0 hts (gV tw_854 tw_855 tw_856 tw_84 tw_857) rfl rfl rfl (by decide +kernel) ⟨Nat.le_of_ble_eq_true rfl, Nat.le_of_ble_eq_true rfl⟩) (pV hS hAlo hlo hP hK (va_Dlo hD hAlo) hZ [11, 12, 13, 18] (by decide) rfl (ci := 1) (q := (RX1, TX1, 8)) (q0 := 0) rfl rfl) rfl rfl hl.1 rfl (lv_room (Nat.le_of_ble_eq_true rfl)) dX7_rests_31 ⟨Nat.le_of_ble_eq_true rfl, Nat.le_of_ble_eq_true rfl⟩) hS hA hP (fun r_7 H locs hw_7 hP hS => ?_)
    try dsimp only at hw_7
    rcases hw_7 with rfl | rfl
    · refine lv_if_eq (tgt := 41) hx hb dX7_rests_34 (by decide) (fun h => absurd h (by decide)) (fun _ => ?_)
      refine lv_iconst (v := 1) hx hb dX7_rests_37 (by decide) ?_
      refine lv_goto (tgt := 42) hx hb dX7_rests_38 (by decide) ?_
      obtain ⟨hP9, hD9⟩ := pd_sub [((a 0), .inr (7, (fX7 (a 1) (a 3) (a 19) (a 35) (a 40) (nI rk) lfa (a 53) (a 56) (a 63) (a 64) (a 68)))), ((a 3), .inl (k 3, 3, .inr (.inr (.inr (.inr (a3 (a 4) (a 9) (a 14))))))), ((a 4), .inr (5, (fX5 (a 5) (a 6) (a 7) (a 8)))), (aI k (a 5) 10 (vv n0 see0 tm0 g0)), (aI k (a 7) 24 fp0), (aI k (a 8) 4 fl0), ((a 9), .inr (5, (fX5 (a 10) (a 11) (a 12) (a 13)))), (aI k (a 10) 10 (vv n1 see1 tm1 g1)), (aI k (a 12) 24 fp1), (aI k (a 13) 4 fl1), ((a 14), .inr (5, (fX5 (a 15) (a 16) (a 17) (a 18)))), (aI k (a 15) 10 (vv n2 see2 tm2 g2)), (aI k (a 17) 24 fp2), (aI k (a 18) 4 fl2), ((a 53), .inr (4, (fX4 (a 54) (a 55) (nI cc) (nI rz) ro sd))), (aI k (a 54) 4 wk), (aI k (a 55) 4 (nF br)), ((a 68), .inr (1, (fX1 (a 53) (a 69) (a 70) (a 71) (nI n2) p1 0 0))), (aI k (a 69) 4 (nF pb__6)), (aI k (a 70) 100 pco__6), (aI k (a 71) 16 pg)] [0, 1, 2, 3, 4, 5, 6, 7, 8, 9, 14, 15, 16, 17, 18, 19, 20, 11, 12, 13, 10] hP hD (by decide +kernel) rfl
      exact W.iret (v := 1) hx hb hr (fun t ht hW => ⟨⟨1, ((nI n2), p1, 0, 0, pb__6, pco__6), rfl, hw_6, by rw [ht]; exact hP9, hD9⟩, hS.F ht⟩) hS.2.2 dX7_rests_42
    · refine lv_if_eq (tgt := 41) hx hb dX7_rests_34 (by decide) (fun _ => ?_) (fun h => absurd (by decide) h)
      refine lv_iconst (v := 0) hx hb dX7_rests_41 (by decide) ?_
      obtain ⟨hP9, hD9⟩ := pd_sub [((a 0), .inr (7, (fX7 (a 1) (a 3) (a 19) (a 35) (a 40) (nI rk) lfa (a 53) (a 56) (a 63) (a 64) (a 68)))), ((a 3), .inl (k 3, 3, .inr (.inr (.inr (.inr (a3 (a 4) (a 9) (a 14))))))), ((a 4), .inr (5, (fX5 (a 5) (a 6) (a 7) (a 8)))), (aI k (a 5) 10 (vv n0 see0 tm0 g0)), (aI k (a 7) 24 fp0), (aI k (a 8) 4 fl0), ((a 9), .inr (5, (fX5 (a 10) (a 11) (a 12) (a 13)))), (aI k (a 10) 10 (vv n1 see1 tm1 g1)), (aI k (a 12) 24 fp1), (aI k (a 13) 4 fl1), ((a 14), .inr (5, (fX5 (a 15) (a 16) (a 17) (a 18)))), (aI k (a 15) 10 (vv n2 see2 tm2 g2)), (aI k (a 17) 24 fp2), (aI k (a 18) 4 fl2), ((a 53), .inr (4, (fX4 (a 54) (a 55) (nI cc) (nI rz) ro sd))), (aI k (a 54) 4 wk), (aI k (a 55) 4 (nF br)), ((a 68), .inr (1, (fX1 (a 53) (a 69) (a 70) (a 71) (nI n2) p1 0 0))), (aI k (a 69) 4 (nF pb__6)), (aI k (a 70) 100 pco__6), (aI k (a 71) 16 pg)] [0, 1, 2, 3, 4, 5, 6, 7, 8, 9, 14, 15, 16, 17, 18, 19, 20, 11, 12, 13, 10] hP hD (by decide +kernel) rfl
      exact W.iret (v := 0) hx hb hr (fun t ht hW => ⟨⟨0, ((nI n2), p1, 0, 0, pb__6, pco__6), rfl, hw_6, by rw [ht]; exact hP9, hD9⟩, hS.F ht⟩) hS.2.2 dX7_rests_42
  · refine lv_istore_n (lv' := [(3, .int (-1001)), (0, .ref (a 0)), (1, .int p0), (2, .int p1)]) hx hb dX7_rests_6 rfl hl (by decide) rfl (fun ls hl => ?_)
    refine lv_iload_n hx hb dX7_rests_7 rfl (lv_at hl 0 rfl) ?_
    refine lv_if_eq (tgt := 13) hx hb dX7_rests_8 (by decide) (fun h => absurd h (by decide)) (fun _ => ?_)
    refine lv_iload_n hx hb dX7_rests_11 rfl (lv_at hl 0 rfl) ?_
    obtain ⟨hP9, hD9⟩ := pd_sub [((a 0), .inr (7, (fX7 (a 1) (a 3) (a 19) (a 35) (a 40) (nI rk) lfa (a 53) (a 56) (a 63) (a 64) (a 68)))), ((a 3), .inl (k 3, 3, .inr (.inr (.inr (.inr (a3 (a 4) (a 9) (a 14))))))), ((a 4), .inr (5, (fX5 (a 5) (a 6) (a 7) (a 8)))), (aI k (a 5) 10 (vv n0 see0 tm0 g0)), (aI k (a 7) 24 fp0), (aI k (a 8) 4 fl0), ((a 9), .inr (5, (fX5 (a 10) (a 11) (a 12) (a 13)))), (aI k (a 10) 10 (vv n1 see1 tm1 g1)), (aI k (a 12) 24 fp1), (aI k (a 13) 4 fl1), ((a 14), .inr (5, (fX5 (a 15) (a 16) (a 17) (a 18)))), (aI k (a 15) 10 (vv n2 see2 tm2 g2)), (aI k (a 17) 24 fp2), (aI k (a 18) 4 fl2), ((a 53), .inr (4, (fX4 (a 54) (a 55) (nI cc) (nI rz) ro sd))), (aI k (a 54) 4 wk), (aI k (a 55) 4 (nF br)), ((a 68), .inr (1, (fX1 (a 53) (a 69) (a 70) (a 71) pn pf pd pe))), (aI k (a 69) 4 (nF pb)), (aI k (a 70) 100 pco), (aI k (a 71) 16 pg)] [0, 1, 2, 3, 4, 5, 6, 7, 8, 9, 10, 11, 12, 13, 14, 15, 16, 17, 18, 19, 20] hP hD (by decide +kernel) rfl
    exact W.iret (v := (-1001)) hx hb hr (fun t ht hW => ⟨⟨(-1001), (pn, pf, pd, pe, pb, pco), rfl, hpb, by rw [ht]; exact hP9, hD9⟩, hS.F ht⟩) hS.2.2 dX7_rests_12
  · refine lv_istore_n (lv' := [(3, .int (-1002)), (0, .ref (a 0)), (1, .int p0), (2, .int p1)]) hx hb dX7_rests_6 rfl hl (by decide) rfl (fun ls hl => ?_)
    refine lv_iload_n hx hb dX7_rests_7 rfl (lv_at hl 0 rfl) ?_
    refine lv_if_eq (tgt := 13) hx hb dX7_rests_8 (by decide) (fun h => absurd h (by decide)) (fun _ => ?_)
    refine lv_iload_n hx hb dX7_rests_11 rfl (lv_at hl 0 rfl) ?_
    obtain ⟨hP9, hD9⟩ := pd_sub [((a 0), .inr (7, (fX7 (a 1) (a 3) (a 19) (a 35) (a 40) (nI rk) lfa (a 53) (a 56) (a 63) (a 64) (a 68)))), ((a 3), .inl (k 3, 3, .inr (.inr (.inr (.inr (a3 (a 4) (a 9) (a 14))))))), ((a 4), .inr (5, (fX5 (a 5) (a 6) (a 7) (a 8)))), (aI k (a 5) 10 (vv n0 see0 tm0 g0)), (aI k (a 7) 24 fp0), (aI k (a 8) 4 fl0), ((a 9), .inr (5, (fX5 (a 10) (a 11) (a 12) (a 13)))), (aI k (a 10) 10 (vv n1 see1 tm1 g1)), (aI k (a 12) 24 fp1), (aI k (a 13) 4 fl1), ((a 14), .inr (5, (fX5 (a 15) (a 16) (a 17) (a 18)))), (aI k (a 15) 10 (vv n2 see2 tm2 g2)), (aI k (a 17) 24 fp2), (aI k (a 18) 4 fl2), ((a 53), .inr (4, (fX4 (a 54) (a 55) (nI cc) (nI rz) ro sd))), (aI k (a 54) 4 wk), (aI k (a 55) 4 (nF br)), ((a 68), .inr (1, (fX1 (a 53) (a 69) (a 70) (a 71) pn pf pd pe))), (aI k (a 69) 4 (nF pb)), (aI k (a 70) 100 pco), (aI k (a 71) 16 pg)] [0, 1, 2, 3, 4, 5, 6, 7, 8, 9, 10, 11, 12, 13, 14, 15, 16, 17, 18, 19, 20] hP hD (by decide +kernel) rfl
    exact W.iret (v := (-1002)) hx hb hr (fun t ht hW => ⟨⟨(-1002), (pn, pf, pd, pe, pb, pco), rfl, hpb, by rw [ht]; exact hP9, hD9⟩, hS.F ht⟩) hS.2.2 dX7_rests_12

theorem dX7_turn_0 : decode cX7_turn 0 = .ok (.aload_n 0, 1) := by decide +kernel
theorem dX7_turn_1 : decode cX7_turn 1 = .ok (.iload_n 1, 1) := by decide +kernel
theorem dX7_turn_2 : decode cX7_turn 2 = .ok (.iload_n 2, 1) := by decide +kernel
theorem dX7_turn_3 : decode cX7_turn 3 = .ok (.invokevirtual 239, 3) := by decide +kernel
theorem dX7_turn_6 : decode cX7_turn 6 = .ok (.istore_n 3, 1) := by decide +kernel
theorem dX7_turn_7 : decode cX7_turn 7 = .ok (.iload_n 3, 1) := by decide +kernel
theorem dX7_turn_8 : decode cX7_turn 8 = .ok (.ifCond .eq 5, 3) := by decide +kernel
theorem dX7_turn_11 : decode cX7_turn 11 = .ok (.iload_n 3, 1) := by decide +kernel
theorem dX7_turn_12 : decode cX7_turn 12 = .ok (.ireturn, 1) := by decide +kernel
theorem dX7_turn_13 : decode cX7_turn 13 = .ok (.aload_n 0, 1) := by decide +kernel
theorem dX7_turn_14 : decode cX7_turn 14 = .ok (.getfield 73, 3) := by decide +kernel
theorem dX7_turn_17 : decode cX7_turn 17 = .ok (.aload_n 0, 1) := by decide +kernel
theorem dX7_turn_18 : decode cX7_turn 18 = .ok (.getfield 18, 3) := by decide +kernel
theorem dX7_turn_21 : decode cX7_turn 21 = .ok (.iload_n 1, 1) := by decide +kernel
theorem dX7_turn_22 : decode cX7_turn 22 = .ok (.aaload, 1) := by decide +kernel
theorem dX7_turn_23 : decode cX7_turn 23 = .ok (.iload_n 2, 1) := by decide +kernel
theorem dX7_turn_24 : decode cX7_turn 24 = .ok (.invokevirtual 229, 3) := by decide +kernel
theorem dX7_turn_27 : decode cX7_turn 27 = .ok (.aload_n 0, 1) := by decide +kernel
theorem dX7_turn_28 : decode cX7_turn 28 = .ok (.getfield 73, 3) := by decide +kernel
theorem dX7_turn_31 : decode cX7_turn 31 = .ok (.invokevirtual 246, 3) := by decide +kernel
theorem dX7_turn_34 : decode cX7_turn 34 = .ok (.istore 4, 2) := by decide +kernel
theorem dX7_turn_36 : decode cX7_turn 36 = .ok (.aload_n 0, 1) := by decide +kernel
theorem dX7_turn_37 : decode cX7_turn 37 = .ok (.getfield 49, 3) := by decide +kernel
theorem dX7_turn_40 : decode cX7_turn 40 = .ok (.aload_n 0, 1) := by decide +kernel
theorem dX7_turn_41 : decode cX7_turn 41 = .ok (.getfield 73, 3) := by decide +kernel
theorem dX7_turn_44 : decode cX7_turn 44 = .ok (.getfield 249, 3) := by decide +kernel
theorem dX7_turn_47 : decode cX7_turn 47 = .ok (.invokevirtual 250, 3) := by decide +kernel
theorem dX7_turn_50 : decode cX7_turn 50 = .ok (.iload 4, 2) := by decide +kernel
theorem dX7_turn_52 : decode cX7_turn 52 = .ok (.ireturn, 1) := by decide +kernel
set_option maxHeartbeats 4000000 in
set_option maxRecDepth 100000 in
theorem x_turn (l : Launch) (D : va_G) (k : Nat → ClassId) (st : Nat → Nat) (lo : Nat) (a : Nat → Nat) (rk : Nat) (lfa : Int32) (n0 : Nat) (see0 : Nat) (tm0 : Nat) (g0 : Nat → Int32) (fp0 : Nat → Int32) (fl0 : Nat → Int32) (n1 : Nat) (see1 : Nat) (tm1 : Nat) (g1 : Nat → Int32) (fp1 : Nat → Int32) (fl1 : Nat → Int32) (n2 : Nat) (see2 : Nat) (tm2 : Nat) (g2 : Nat → Int32) (fp2 : Nat → Int32) (fl2 : Nat → Int32) (cc : Nat) (rz : Nat) (ro : Int32) (sd : Int32) (wk : Nat → Int32) (br : Nat → Nat) (pn : Int32) (pf : Int32) (pd : Int32) (pe : Int32) (pb : Nat → Nat) (pco : Nat → Int32) (pg : Nat → Int32) (p0 : Int32) (p1 : Int32) (hn0 : n0 ≤ 24) (hse0 : see0 ≤ 2) (htm0 : tm0 ≤ 3) (hn1 : n1 ≤ 24) (hse1 : see1 ≤ 2) (htm1 : tm1 ≤ 3) (hn2 : n2 ≤ 24) (hse2 : see2 ≤ 2) (htm2 : tm2 ≤ 3) (hcc : cc ≤ 4) (hbr : ∀ j, br j ≤ 24) (hpb : ∀ j, pb j ≤ 24) : CWi l D k st lo yX7_turn cX7_turn 5 (some .int) ({ frames := 5, cells := 0, slots := 0, locals := 117 }) 0 0 [.ref (a 0), .int p0, .int p1] [((a 0), .inr (7, (fX7 (a 1) (a 3) (a 19) (a 35) (a 40) (nI rk) lfa (a 53) (a 56) (a 63) (a 64) (a 68)))), ((a 3), .inl (k 3, 3, .inr (.inr (.inr (.inr (a3 (a 4) (a 9) (a 14))))))), ((a 4), .inr (5, (fX5 (a 5) (a 6) (a 7) (a 8)))), (aI k (a 5) 10 (vv n0 see0 tm0 g0)), (aI k (a 7) 24 fp0), (aI k (a 8) 4 fl0), ((a 9), .inr (5, (fX5 (a 10) (a 11) (a 12) (a 13)))), (aI k (a 10) 10 (vv n1 see1 tm1 g1)), (aI k (a 12) 24 fp1), (aI k (a 13) 4 fl1), ((a 14), .inr (5, (fX5 (a 15) (a 16) (a 17) (a 18)))), (aI k (a 15) 10 (vv n2 see2 tm2 g2)), (aI k (a 17) 24 fp2), (aI k (a 18) 4 fl2), ((a 53), .inr (4, (fX4 (a 54) (a 55) (nI cc) (nI rz) ro sd))), (aI k (a 54) 4 wk), (aI k (a 55) 4 (nF br)), ((a 68), .inr (1, (fX1 (a 53) (a 69) (a 70) (a 71) pn pf pd pe))), (aI k (a 69) 4 (nF pb)), (aI k (a 70) 100 pco), (aI k (a 71) 16 pg)] (fun (r : Int32) (u : Int32 × Int32 × Int32 × Int32 × (Nat → Nat) × (Nat → Int32) × (Nat → Nat)) => match u with | (pn_, pf_, pd_, pe_, pb_, pco_, br_) => (∀ j, pb_ j ≤ 24) ∧ (∀ j, br_ j ≤ 24)) (fun (u : Int32 × Int32 × Int32 × Int32 × (Nat → Nat) × (Nat → Int32) × (Nat → Nat)) => match u with | (pn_, pf_, pd_, pe_, pb_, pco_, br_) => [((a 0), .inr (7, (fX7 (a 1) (a 3) (a 19) (a 35) (a 40) (nI rk) lfa (a 53) (a 56) (a 63) (a 64) (a 68)))), ((a 3), .inl (k 3, 3, .inr (.inr (.inr (.inr (a3 (a 4) (a 9) (a 14))))))), ((a 4), .inr (5, (fX5 (a 5) (a 6) (a 7) (a 8)))), (aI k (a 5) 10 (vv n0 see0 tm0 g0)), (aI k (a 7) 24 fp0), (aI k (a 8) 4 fl0), ((a 9), .inr (5, (fX5 (a 10) (a 11) (a 12) (a 13)))), (aI k (a 10) 10 (vv n1 see1 tm1 g1)), (aI k (a 12) 24 fp1), (aI k (a 13) 4 fl1), ((a 14), .inr (5, (fX5 (a 15) (a 16) (a 17) (a 18)))), (aI k (a 15) 10 (vv n2 see2 tm2 g2)), (aI k (a 17) 24 fp2), (aI k (a 18) 4 fl2), ((a 53), .inr (4, (fX4 (a 54) (a 55) (nI cc) (nI rz) ro sd))), (aI k (a 54) 4 wk), (aI k (a 55) 4 (nF br_)), ((a 68), .inr (1, (fX1 (a 53) (a 69) (a 70) (a 71) pn_ pf_ pd_ pe_))), (aI k (a 69) 4 (nF pb_)), (aI k (a 70) 100 pco_), (aI k (a 71) 16 pg)]) := by
  intro sz
  refine Met.ofW (cc := cX7_turn) (maxL := 5) (ret := (some .int)) (by decide) rfl ?_
  intro p e s m args below meth c s₁ B hml hv
  obtain ⟨rfl, hsz, hlo, hP, hK, hDL, hZ⟩ := hv
  have hx := B.exec
  have hb := B.bytes
  have hr := B.returns
  have hts := WS_ts B.pre
  have hown : s.vm.findClass RX7 = some m.cls := findClass_of_methodNamed B.named
  have hlocks := B.notSynchronized
  subst hsz
  have hD := hDL.self (sz := s.heap.size)
  have hAlo := A_lo hDL hlo
  generalize hAe : va_A [((a 0), .inr (7, (fX7 (a 1) (a 3) (a 19) (a 35) (a 40) (nI rk) lfa (a 53) (a 56) (a 63) (a 64) (a 68)))), ((a 3), .inl (k 3, 3, .inr (.inr (.inr (.inr (a3 (a 4) (a 9) (a 14))))))), ((a 4), .inr (5, (fX5 (a 5) (a 6) (a 7) (a 8)))), (aI k (a 5) 10 (vv n0 see0 tm0 g0)), (aI k (a 7) 24 fp0), (aI k (a 8) 4 fl0), ((a 9), .inr (5, (fX5 (a 10) (a 11) (a 12) (a 13)))), (aI k (a 10) 10 (vv n1 see1 tm1 g1)), (aI k (a 12) 24 fp1), (aI k (a 13) 4 fl1), ((a 14), .inr (5, (fX5 (a 15) (a 16) (a 17) (a 18)))), (aI k (a 15) 10 (vv n2 see2 tm2 g2)), (aI k (a 17) 24 fp2), (aI k (a 18) 4 fl2), ((a 53), .inr (4, (fX4 (a 54) (a 55) (nI cc) (nI rz) ro sd))), (aI k (a 54) 4 wk), (aI k (a 55) 4 (nF br)), ((a 68), .inr (1, (fX1 (a 53) (a 69) (a 70) (a 71) pn pf pd pe))), (aI k (a 69) 4 (nF pb)), (aI k (a 70) 100 pco), (aI k (a 71) 16 pg)] s.heap.size = A at hD hAlo ⊢
  have hA : ∀ q : Nat, s.heap.size ≤ q → A q := fun q h => by rw [← hAe]; exact Or.inr h
  have hS : va_S A s.heap s.heap [] := va_S.rf
  have hl := lv_entry ([.ref (a 0), .int p0, .int p1]) (n := 5) (Nat.le_of_ble_eq_true rfl)
  rw [lg_entry_eq]
  generalize (lg_sl ([.ref (a 0), .int p0, .int p1]) ++ List.replicate (5 - (lg_sl ([.ref (a 0), .int p0, .int p1])).length) Slot.unset).toArray = ls at hl ⊢
  have hl : lv_has ls 5 [(0, .ref (a 0)), (1, .int p0), (2, .int p1)] := hl
  refine lv_aload_n hx hb dX7_turn_0 rfl (lv_at hl 0 rfl) ?_
  refine lv_iload_n hx hb dX7_turn_1 rfl (lv_at hl 1 rfl) ?_
  refine lv_iload_n hx hb dX7_turn_2 rfl (lv_at hl 2 rfl) ?_
  refine ro_i (D := D) (va_runV (As := [.int p0, .int p1]) (rest := []) ⟨hx, hb, hml, hown, hts⟩ ((x_refuseSet l D k st lo a rk lfa n0 see0 tm0 g0 n1 see1 tm1 g1 n2 see2 tm2 g2 p0 p1 (by first | assumption | omega) (by first | assumption | omega) (by first | assumption | omega)) s.heap.size) (cwV 2 hts (gV tw_850 tw_852 tw_21 tw_79 tw_853) rfl rfl rfl (by decide +kernel) ⟨Nat.le_of_ble_eq_true rfl, Nat.le_of_ble_eq_true rfl⟩) (pV hS hAlo hlo hP hK (va_Dlo hD hAlo) hZ [0, 1, 2, 3, 6, 7, 10, 11] (by decide) rfl (ci := 7) (q := (RX7, TX7, 12)) (q0 := 0) rfl rfl) rfl rfl hl.1 rfl (lv_room (Nat.le_of_ble_eq_true rfl)) dX7_turn_3 ⟨Nat.le_of_ble_eq_true rfl, Nat.le_of_ble_eq_true rfl⟩) hS hA hP (fun r_1 H locs hw_1 hP hS => ?_)
  try dsimp only at hw_1
  rcases hw_1 with ⟨rfl, rfl | rfl | rfl⟩ | rfl | rfl
  · refine lv_istore_n (lv' := [(3, .int 0), (0, .ref (a 0)), (1, .int 0), (2, .int p1)]) hx hb dX7_turn_6 rfl hl (by decide) rfl (fun ls hl => ?_)
    refine lv_iload_n hx hb dX7_turn_7 rfl (lv_at hl 0 rfl) ?_
    refine lv_if_eq (tgt := 13) hx hb dX7_turn_8 (by decide) (fun _ => ?_) (fun h => absurd (by decide) h)
    refine lv_aload_n hx hb dX7_turn_13 rfl (lv_at hl 1 rfl) ?_
    refine va_get (D := D) (ci := 7) (v := .ref (a 68)) (C := RX7) (T := TX7) (N := 12) hx hb hts inX7 hown hK hP 0 rfl rfl 11 (by decide) (hts _ tw_316) (fun _ h9 => h9) rfl dX7_turn_14 ?_
    refine lv_aload_n hx hb dX7_turn_17 rfl (lv_at hl 1 rfl) ?_
    refine va_get (D := D) (ci := 7) (v := .ref (a 3)) (C := RX7) (T := TX7) (N := 12) hx hb hts inX7 hown hK hP 0 rfl rfl 1 (by decide) (hts _ tw_306) (fun _ h9 => h9) rfl dX7_turn_18 ?_
    refine lv_iload_n hx hb dX7_turn_21 rfl (lv_at hl 2 rfl) ?_
    refine va_aldq hx hb hK hP 1 3 rfl rfl (by unfold vp_in; decide) dX7_turn_22 ?_
    refine lv_tr (y := .ref (a 4)) rfl ?_
    refine lv_iload_n hx hb dX7_turn_23 rfl (lv_at hl 3 rfl) ?_
    refine rw_v (D := D) (wr := [((a 0), .inr (7, (fX7 (a 1) (a 3) (a 19) (a 35) (a 40) (nI rk) lfa (a 53) (a 56) (a 63) (a 64) (a 68)))), ((a 3), .inl (k 3, 3, .inr (.inr (.inr (.inr (a3 (a 4) (a 9) (a 14))))))), ((a 9), .inr (5, (fX5 (a 10) (a 11) (a 12) (a 13)))), (aI k (a 10) 10 (vv n1 see1 tm1 g1)), (aI k (a 12) 24 fp1), (aI k (a 13) 4 fl1), ((a 14), .inr (5, (fX5 (a 15) (a 16) (a 17) (a 18)))), (aI k (a 15) 10 (vv n2 see2 tm2 g2)), (aI k (a 17) 24 fp2), (aI k (a 18) 4 fl2), (aI k (a 71) 16 pg)]) (va_runV (As := [.ref (a 4), .int p1]) (rest := []) ⟨hx, hb, hml, hown, hts⟩ ((x_comeTo l D k st lo (a 53) (a 68) (a 69) (a 70) (a 71) pn pf pd pe pb pco (a 4) (a 5) (a 6) (a 7) (a 8) n0 see0 tm0 g0 fp0 fl0 (a 54) (a 55) cc rz ro sd wk br p1 (by first | assumption | omega) (by first | assumption | omega) hbr hpb) H.size) (cwV 2 hts (gV tw_821 tw_822 tw_823 tw_84 tw_824) rfl rfl rfl (by decide +kernel) ⟨Nat.le_of_ble_eq_true rfl, Nat.le_of_ble_eq_true rfl⟩) (pV hS hAlo hlo hP hK (va_Dlo hD hAlo) hZ [17, 18, 19, 2, 3, 4, 5, 14, 15, 16] (by decide +kernel) rfl (ci := 1) (q := (RX1, TX1, 8)) (q0 := 0) rfl rfl) rfl rfl hl.1 rfl (lv_room (Nat.le_of_ble_eq_true rfl)) dX7_turn_24 ⟨Nat.le_of_ble_eq_true rfl, Nat.le_of_ble_eq_true rfl⟩) hS hA hP hD [17, 18, 19, 2, 3, 4, 5, 14, 15, 16] [0, 1, 6, 7, 8, 9, 10, 11, 12, 13, 20] rfl rfl (by decide +kernel) (by decide +kernel) (fun u H locs hw_2 hP hD hS => ?_)
    obtain ⟨pb__2, pco__2⟩ := u
    have hQ9 := pd_mk [((a 0), .inr (7, (fX7 (a 1) (a 3) (a 19) (a 35) (a 40) (nI rk) lfa (a 53) (a 56) (a 63) (a 64) (a 68)))), ((a 3), .inl (k 3, 3, .inr (.inr (.inr (.inr (a3 (a 4) (a 9) (a 14))))))), ((a 9), .inr (5, (fX5 (a 10) (a 11) (a 12) (a 13)))), (aI k (a 10) 10 (vv n1 see1 tm1 g1)), (aI k (a 12) 24 fp1), (aI k (a 13) 4 fl1), ((a 14), .inr (5, (fX5 (a 15) (a 16) (a 17) (a 18)))), (aI k (a 15) 10 (vv n2 see2 tm2 g2)), (aI k (a 17) 24 fp2), (aI k (a 18) 4 fl2), (aI k (a 71) 16 pg), ((a 68), .inr (1, (fX1 (a 53) (a 69) (a 70) (a 71) (nI n0) p1 0 0))), (aI k (a 69) 4 (nF pb__2)), (aI k (a 70) 100 pco__2), ((a 4), .inr (5, (fX5 (a 5) (a 6) (a 7) (a 8)))), (aI k (a 5) 10 (vv n0 see0 tm0 g0)), (aI k (a 7) 24 fp0), (aI k (a 8) 4 fl0), ((a 53), .inr (4, (fX4 (a 54) (a 55) (nI cc) (nI rz) ro sd))), (aI k (a 54) 4 wk), (aI k (a 55) 4 (nF br))] hP hD
    clear hP hD
    obtain ⟨hP, hD⟩ := hQ9
    try dsimp only at hw_2
    refine lv_aload_n hx hb dX7_turn_27 rfl (lv_at hl 1 rfl) ?_
    refine va_get (D := D) (ci := 7) (v := .ref (a 68)) (C := RX7) (T := TX7) (N := 12) hx hb hts inX7 hown hK hP 0 rfl rfl 11 (by decide) (hts _ tw_316) (fun _ h9 => h9) rfl dX7_turn_28 ?_
    refine rw_i (D := D) (wr := [((a 0), .inr (7, (fX7 (a 1) (a 3) (a 19) (a 35) (a 40) (nI rk) lfa (a 53) (a 56) (a 63) (a 64) (a 68)))), ((a 3), .inl (k 3, 3, .inr (.inr (.inr (.inr (a3 (a 4) (a 9) (a 14))))))), ((a 9), .inr (5, (fX5 (a 10) (a 11) (a 12) (a 13)))), (aI k (a 10) 10 (vv n1 see1 tm1 g1)), (aI k (a 12) 24 fp1), (aI k (a 13) 4 fl1), ((a 14), .inr (5, (fX5 (a 15) (a 16) (a 17) (a 18)))), (aI k (a 15) 10 (vv n2 see2 tm2 g2)), (aI k (a 17) 24 fp2), (aI k (a 18) 4 fl2), (aI k (a 71) 16 pg), ((a 4), .inr (5, (fX5 (a 5) (a 6) (a 7) (a 8)))), (aI k (a 5) 10 (vv n0 see0 tm0 g0)), (aI k (a 7) 24 fp0), (aI k (a 8) 4 fl0), (aI k (a 54) 4 wk), (aI k (a 55) 4 (nF br))]) (va_runV (As := []) (rest := []) ⟨hx, hb, hml, hown, hts⟩ ((x_goByTurns l D k st lo (a 53) (a 68) (a 69) (a 70) (a 71) n0 p1 0 0 pb__2 pco__2 (a 54) (a 55) cc rz ro sd (by first | assumption | omega) (by first | assumption | omega) hw_2) H.size) (cwV 0 hts (gV tw_871 tw_872 tw_873 tw_84 tw_874) rfl rfl rfl (by decide +kernel) ⟨Nat.le_of_ble_eq_true rfl, Nat.le_of_ble_eq_true rfl⟩) (pV hS hAlo hlo hP hK (va_Dlo hD hAlo) hZ [11, 12, 13, 18] (by decide) rfl (ci := 1) (q := (RX1, TX1, 8)) (q0 := 0) rfl rfl) rfl rfl hl.1 rfl (lv_room (Nat.le_of_ble_eq_true rfl)) dX7_turn_31 ⟨Nat.le_of_ble_eq_true rfl, Nat.le_of_ble_eq_true rfl⟩) hS hA hP hD [11, 12, 13, 18] [0, 1, 2, 3, 4, 5, 6, 7, 8, 9, 10, 14, 15, 16, 17, 19, 20] rfl rfl (by decide +kernel) (by decide +kernel) (fun r_3 u H locs hw_3 hP hD hS => ?_)
    obtain ⟨pb__3, rfl⟩ : ∃ z, z = u := ⟨_, rfl⟩
    have hQ9 := pd_mk [((a 0), .inr (7, (fX7 (a 1) (a 3) (a 19) (a 35) (a 40) (nI rk) lfa (a 53) (a 56) (a 63) (a 64) (a 68)))), ((a 3), .inl (k 3, 3, .inr (.inr (.inr (.inr (a3 (a 4) (a 9) (a 14))))))), ((a 9), .inr (5, (fX5 (a 10) (a 11) (a 12) (a 13)))), (aI k (a 10) 10 (vv n1 see1 tm1 g1)), (aI k (a 12) 24 fp1), (aI k (a 13) 4 fl1), ((a 14), .inr (5, (fX5 (a 15) (a 16) (a 17) (a 18)))), (aI k (a 15) 10 (vv n2 see2 tm2 g2)), (aI k (a 17) 24 fp2), (aI k (a 18) 4 fl2), (aI k (a 71) 16 pg), ((a 4), .inr (5, (fX5 (a 5) (a 6) (a 7) (a 8)))), (aI k (a 5) 10 (vv n0 see0 tm0 g0)), (aI k (a 7) 24 fp0), (aI k (a 8) 4 fl0), (aI k (a 54) 4 wk), (aI k (a 55) 4 (nF br)), ((a 68), .inr (1, (fX1 (a 53) (a 69) (a 70) (a 71) (nI n0) p1 0 0))), (aI k (a 69) 4 (nF pb__3)), (aI k (a 70) 100 pco__2), ((a 53), .inr (4, (fX4 (a 54) (a 55) (nI cc) (nI rz) ro sd)))] hP hD
    clear hP hD
    obtain ⟨hP, hD⟩ := hQ9
    try dsimp only at hw_3
    refine lv_istore (lv' := [(4, .int r_3), (3, .int 0), (0, .ref (a 0)), (1, .int 0), (2, .int p1)]) hx hb dX7_turn_34 hl (by decide) rfl (fun ls hl => ?_)
    refine lv_aload_n hx hb dX7_turn_36 rfl (lv_at hl 2 rfl) ?_
    refine va_get (D := D) (ci := 7) (v := .ref (a 53)) (C := RX7) (T := TX7) (N := 12) hx hb hts inX7 hown hK hP 0 rfl rfl 7 (by decide) (hts _ tw_312) (fun _ h9 => h9) rfl dX7_turn_37 ?_
    refine lv_aload_n hx hb dX7_turn_40 rfl (lv_at hl 2 rfl) ?_
    refine va_get (D := D) (ci := 7) (v := .ref (a 68)) (C := RX7) (T := TX7) (N := 12) hx hb hts inX7 hown hK hP 0 rfl rfl 11 (by decide) (hts _ tw_316) (fun _ h9 => h9) rfl dX7_turn_41 ?_
    refine va_get (D := D) (ci := 1) (v := .ref (a 69)) (C := RX1) (T := TX1) (N := 8) hx hb hts inX1 hown hK hP 17 rfl rfl 1 (by decide) (hts _ tw_237) (fun _ h9 => h9) rfl dX7_turn_44 ?_
    refine rw_v (D := D) (wr := [((a 0), .inr (7, (fX7 (a 1) (a 3) (a 19) (a 35) (a 40) (nI rk) lfa (a 53) (a 56) (a 63) (a 64) (a 68)))), ((a 3), .inl (k 3, 3, .inr (.inr (.inr (.inr (a3 (a 4) (a 9) (a 14))))))), ((a 9), .inr (5, (fX5 (a 10) (a 11) (a 12) (a 13)))), (aI k (a 10) 10 (vv n1 see1 tm1 g1)), (aI k (a 12) 24 fp1), (aI k (a 13) 4 fl1), ((a 14), .inr (5, (fX5 (a 15) (a 16) (a 17) (a 18)))), (aI k (a 15) 10 (vv n2 see2 tm2 g2)), (aI k (a 17) 24 fp2), (aI k (a 18) 4 fl2), (aI k (a 71) 16 pg), ((a 4), .inr (5, (fX5 (a 5) (a 6) (a 7) (a 8)))), (aI k (a 5) 10 (vv n0 see0 tm0 g0)), (aI k (a 7) 24 fp0), (aI k (a 8) 4 fl0), ((a 68), .inr (1, (fX1 (a 53) (a 69) (a 70) (a 71) (nI n0) p1 0 0))), (aI k (a 70) 100 pco__2)]) (va_runV (As := [.ref (a 69)]) (rest := []) ⟨hx, hb, hml, hown, hts⟩ ((x_takeBars l D k st lo (a 53) (a 54) (a 55) cc rz ro sd wk br (a 69) pb__3 hbr hw_3) H.size) (cwV 1 hts (gV tw_879 tw_880 tw_881 tw_82 tw_882) rfl rfl rfl (by decide +kernel) ⟨Nat.le_of_ble_eq_true rfl, Nat.le_of_ble_eq_true rfl⟩) (pV hS hAlo hlo hP hK (va_Dlo hD hAlo) hZ [20, 15, 16, 18] (by decide) rfl (ci := 4) (q := (RX4, TX4, 6)) (q0 := 0) rfl rfl) rfl rfl hl.1 rfl (lv_room (Nat.le_of_ble_eq_true rfl)) dX7_turn_47 ⟨Nat.le_of_ble_eq_true rfl, Nat.le_of_ble_eq_true rfl⟩) hS hA hP hD [20, 15, 16, 18] [0, 1, 2, 3, 4, 5, 6, 7, 8, 9, 10, 11, 12, 13, 14, 17, 19] rfl rfl (by decide +kernel) (by decide +kernel) (fun u H locs hw_4 hP hD hS => ?_)
    obtain ⟨br__4, rfl⟩ : ∃ z, z = u := ⟨_, rfl⟩
    have hQ9 := pd_mk [((a 0), .inr (7, (fX7 (a 1) (a 3) (a 19) (a 35) (a 40) (nI rk) lfa (a 53) (a 56) (a 63) (a 64) (a 68)))), ((a 3), .inl (k 3, 3, .inr (.inr (.inr (.inr (a3 (a 4) (a 9) (a 14))))))), ((a 9), .inr (5, (fX5 (a 10) (a 11) (a 12) (a 13)))), (aI k (a 10) 10 (vv n1 see1 tm1 g1)), (aI k (a 12) 24 fp1), (aI k (a 13) 4 fl1), ((a 14), .inr (5, (fX5 (a 15) (a 16) (a 17) (a 18)))), (aI k (a 15) 10 (vv n2 see2 tm2 g2)), (aI k (a 17) 24 fp2), (aI k (a 18) 4 fl2), (aI k (a 71) 16 pg), ((a 4), .inr (5, (fX5 (a 5) (a 6) (a 7) (a 8)))), (aI k (a 5) 10 (vv n0 see0 tm0 g0)), (aI k (a 7) 24 fp0), (aI k (a 8) 4 fl0), ((a 68), .inr (1, (fX1 (a 53) (a 69) (a 70) (a 71) (nI n0) p1 0 0))), (aI k (a 70) 100 pco__2), ((a 53), .inr (4, (fX4 (a 54) (a 55) (nI cc) (nI rz) ro sd))), (aI k (a 54) 4 wk), (aI k (a 55) 4 (nF br__4)), (aI k (a 69) 4 (nF pb__3))] hP hD
    clear hP hD
    obtain ⟨hP, hD⟩ := hQ9
    try dsimp only at hw_4
    refine lv_iload hx hb dX7_turn_50 (lv_at hl 0 rfl) ?_
    obtain ⟨hP9, hD9⟩ := pd_sub [((a 0), .inr (7, (fX7 (a 1) (a 3) (a 19) (a 35) (a 40) (nI rk) lfa (a 53) (a 56) (a 63) (a 64) (a 68)))), ((a 3), .inl (k 3, 3, .inr (.inr (.inr (.inr (a3 (a 4) (a 9) (a 14))))))), ((a 4), .inr (5, (fX5 (a 5) (a 6) (a 7) (a 8)))), (aI k (a 5) 10 (vv n0 see0 tm0 g0)), (aI k (a 7) 24 fp0), (aI k (a 8) 4 fl0), ((a 9), .inr (5, (fX5 (a 10) (a 11) (a 12) (a 13)))), (aI k (a 10) 10 (vv n1 see1 tm1 g1)), (aI k (a 12) 24 fp1), (aI k (a 13) 4 fl1), ((a 14), .inr (5, (fX5 (a 15) (a 16) (a 17) (a 18)))), (aI k (a 15) 10 (vv n2 see2 tm2 g2)), (aI k (a 17) 24 fp2), (aI k (a 18) 4 fl2), ((a 53), .inr (4, (fX4 (a 54) (a 55) (nI cc) (nI rz) ro sd))), (aI k (a 54) 4 wk), (aI k (a 55) 4 (nF br__4)), ((a 68), .inr (1, (fX1 (a 53) (a 69) (a 70) (a 71) (nI n0) p1 0 0))), (aI k (a 69) 4 (nF pb__3)), (aI k (a 70) 100 pco__2), (aI k (a 71) 16 pg)] [0, 1, 11, 12, 13, 14, 2, 3, 4, 5, 6, 7, 8, 9, 17, 18, 19, 15, 20, 16, 10] hP hD (by decide +kernel) rfl
    exact W.iret (v := r_3) hx hb hr (fun t ht hW => ⟨⟨r_3, ((nI n0), p1, 0, 0, pb__3, pco__2, br__4), rfl, ⟨hw_3, hw_4⟩, by rw [ht]; exact hP9, hD9⟩, hS.F ht⟩) hS.2.2 dX7_turn_52
  · refine lv_istore_n (lv' := [(3, .int 0), (0, .ref (a 0)), (1, .int 1), (2, .int p1)]) hx hb dX7_turn_6 rfl hl (by decide) rfl (fun ls hl => ?_)
    refine lv_iload_n hx hb dX7_turn_7 rfl (lv_at hl 0 rfl) ?_
    refine lv_if_eq (tgt := 13) hx hb dX7_turn_8 (by decide) (fun _ => ?_) (fun h => absurd (by decide) h)
    refine lv_aload_n hx hb dX7_turn_13 rfl (lv_at hl 1 rfl) ?_
    refine va_get (D := D) (ci := 7) (v := .ref (a 68)) (C := RX7) (T := TX7) (N := 12) hx hb hts inX7 hown hK hP 0 rfl rfl 11 (by decide) (hts _ tw_316) (fun _ h9 => h9) rfl dX7_turn_14 ?_
    refine lv_aload_n hx hb dX7_turn_17 rfl (lv_at hl 1 rfl) ?_
    refine va_get (D := D) (ci := 7) (v := .ref (a 3)) (C := RX7) (T := TX7) (N := 12) hx hb hts inX7 hown hK hP 0 rfl rfl 1 (by decide) (hts _ tw_306) (fun _ h9 => h9) rfl dX7_turn_18 ?_
    refine lv_iload_n hx hb dX7_turn_21 rfl (lv_at hl 2 rfl) ?_
    refine va_aldq hx hb hK hP 1 3 rfl rfl (by unfold vp_in; decide) dX7_turn_22 ?_
    refine lv_tr (y := .ref (a 9)) rfl ?_
    refine lv_iload_n hx hb dX7_turn_23 rfl (lv_at hl 3 rfl) ?_
    refine rw_v (D := D) (wr := [((a 0), .inr (7, (fX7 (a 1) (a 3) (a 19) (a 35) (a 40) (nI rk) lfa (a 53) (a 56) (a 63) (a 64) (a 68)))), ((a 3), .inl (k 3, 3, .inr (.inr (.inr (.inr (a3 (a 4) (a 9) (a 14))))))), ((a 4), .inr (5, (fX5 (a 5) (a 6) (a 7) (a 8)))), (aI k (a 5) 10 (vv n0 see0 tm0 g0)), (aI k (a 7) 24 fp0), (aI k (a 8) 4 fl0), ((a 14), .inr (5, (fX5 (a 15) (a 16) (a 17) (a 18)))), (aI k (a 15) 10 (vv n2 see2 tm2 g2)), (aI k (a 17) 24 fp2), (aI k (a 18) 4 fl2), (aI k (a 71) 16 pg)]) (va_runV (As := [.ref (a 9), .int p1]) (rest := []) ⟨hx, hb, hml, hown, hts⟩ ((x_comeTo l D k st lo (a 53) (a 68) (a 69) (a 70) (a 71) pn pf pd pe pb pco (a 9) (a 10) (a 11) (a 12) (a 13) n1 see1 tm1 g1 fp1 fl1 (a 54) (a 55) cc rz ro sd wk br p1 (by first | assumption | omega) (by first | assumption | omega) hbr hpb) H.size) (cwV 2 hts (gV tw_821 tw_822 tw_823 tw_84 tw_824) rfl rfl rfl (by decide +kernel) ⟨Nat.le_of_ble_eq_true rfl, Nat.le_of_ble_eq_true rfl⟩) (pV hS hAlo hlo hP hK (va_Dlo hD hAlo) hZ [17, 18, 19, 6, 7, 8, 9, 14, 15, 16] (by decide +kernel) rfl (ci := 1) (q := (RX1, TX1, 8)) (q0 := 0) rfl rfl) rfl rfl hl.1 rfl (lv_room (Nat.le_of_ble_eq_true rfl)) dX7_turn_24 ⟨Nat.le_of_ble_eq_true rfl, Nat.le_of_ble_eq_true rfl⟩) hS hA hP hD [17, 18, 19, 6, 7, 8, 9, 14, 15, 16] [0, 1, 2, 3, 4, 5, 10, 11, 12, 13, 20] rfl rfl (by decide +kernel) (by decide +kernel) (fun u H locs hw_5 hP hD hS => ?_)
    obtain ⟨pb__5, pco__5⟩ := u
    have hQ9 := pd_mk [((a 0), .inr (7, (fX7 (a 1) (a 3) (a 19) (a 35) (a 40) (nI rk) lfa (a 53) (a 56) (a 63) (a 64) (a 68)))), ((a 3), .inl (k 3, 3, .inr (.inr (.inr (.inr (a3 (a 4) (a 9) (a 14))))))), ((a 4), .inr (5, (fX5 (a 5) (a 6) (a 7) (a 8)))), (aI k (a 5) 10 (vv n0 see0 tm0 g0)), (aI k (a 7) 24 fp0), (aI k (a 8) 4 fl0), ((a 14), .inr (5, (fX5 (a 15) (a 16) (a 17) (a 18)))), (aI k (a 15) 10 (vv n2 see2 tm2 g2)), (aI k (a 17) 24 fp2), (aI k (a 18) 4 fl2), (aI k (a 71) 16 pg), ((a 68), .inr (1, (fX1 (a 53) (a 69) (a 70) (a 71) (nI n1) p1 0 0))), (aI k (a 69) 4 (nF pb__5)), (aI k (a 70) 100 pco__5), ((a 9), .inr (5, (fX5 (a 10) (a 11) (a 12) (a 13)))), (aI k (a 10) 10 (vv n1 see1 tm1 g1)), (aI k (a 12) 24 fp1), (aI k (a 13) 4 fl1), ((a 53), .inr (4, (fX4 (a 54) (a 55) (nI cc) (nI rz) ro sd))), (aI k (a 54) 4 wk), (aI k (a 55) 4 (nF br))] hP hD
    clear hP hD
    obtain ⟨hP, hD⟩ := hQ9
    try dsimp only at hw_5
    refine lv_aload_n hx hb dX7_turn_27 rfl (lv_at hl 1 rfl) ?_
    refine va_get (D := D) (ci := 7) (v := .ref (a 68)) (C := RX7) (T := TX7) (N := 12) hx hb hts inX7 hown hK hP 0 rfl rfl 11 (by decide) (hts _ tw_316) (fun _ h9 => h9) rfl dX7_turn_28 ?_
    refine rw_i (D := D) (wr := [((a 0), .inr (7, (fX7 (a 1) (a 3) (a 19) (a 35) (a 40) (nI rk) lfa (a 53) (a 56) (a 63) (a 64) (a 68)))), ((a 3), .inl (k 3, 3, .inr (.inr (.inr (.inr (a3 (a 4) (a 9) (a 14))))))), ((a 4), .inr (5, (fX5 (a 5) (a 6) (a 7) (a 8)))), (aI k (a 5) 10 (vv n0 see0 tm0 g0)), (aI k (a 7) 24 fp0), (aI k (a 8) 4 fl0), ((a 14), .inr (5, (fX5 (a 15) (a 16) (a 17) (a 18)))), (aI k (a 15) 10 (vv n2 see2 tm2 g2)), (aI k (a 17) 24 fp2), (aI k (a 18) 4 fl2), (aI k (a 71) 16 pg), ((a 9), .inr (5, (fX5 (a 10) (a 11) (a 12) (a 13)))), (aI k (a 10) 10 (vv n1 see1 tm1 g1)), (aI k (a 12) 24 fp1), (aI k (a 13) 4 fl1), (aI k (a 54) 4 wk), (aI k (a 55) 4 (nF br))]) (va_runV (As := []) (rest := []) ⟨hx, hb, hml, hown, hts⟩ ((x_goByTurns l D k st lo (a 53) (a 68) (a 69) (a 70) (a 71) n1 p1 0 0 pb__5 pco__5 (a 54) (a 55) cc rz ro sd (by first | assumption | omega) (by first | assumption | omega) hw_5) H.size) (cwV 0 hts (gV tw_871 tw_872 tw_873 tw_84 tw_874) rfl rfl rfl (by decide +kernel) ⟨Nat.le_of_ble_eq_true rfl, Nat.le_of_ble_eq_true rfl⟩) (pV hS hAlo hlo hP hK (va_Dlo hD hAlo) hZ [11, 12, 13, 18] (by decide) rfl (ci := 1) (q := (RX1, TX1, 8)) (q0 := 0) rfl rfl) rfl rfl hl.1 rfl (lv_room (Nat.le_of_ble_eq_true rfl)) dX7_turn_31 ⟨Nat.le_of_ble_eq_true rfl, Nat.le_of_ble_eq_true rfl⟩) hS hA hP hD [11, 12, 13, 18] [0, 1, 2, 3, 4, 5, 6, 7, 8, 9, 10, 14, 15, 16, 17, 19, 20] rfl rfl (by decide +kernel) (by decide +kernel) (fun r_6 u H locs hw_6 hP hD hS => ?_)
    obtain ⟨pb__6, rfl⟩ : ∃ z, z = u := ⟨_, rfl⟩
    have hQ9 := pd_mk [((a 0), .inr (7, (fX7 (a 1) (a 3) (a 19) (a 35) (a 40) (nI rk) lfa (a 53) (a 56) (a 63) (a 64) (a 68)))), ((a 3), .inl (k 3, 3, .inr (.inr (.inr (.inr (a3 (a 4) (a 9) (a 14))))))), ((a 4), .inr (5, (fX5 (a 5) (a 6) (a 7) (a 8)))), (aI k (a 5) 10 (vv n0 see0 tm0 g0)), (aI k (a 7) 24 fp0), (aI k (a 8) 4 fl0), ((a 14), .inr (5, (fX5 (a 15) (a 16) (a 17) (a 18)))), (aI k (a 15) 10 (vv n2 see2 tm2 g2)), (aI k (a 17) 24 fp2), (aI k (a 18) 4 fl2), (aI k (a 71) 16 pg), ((a 9), .inr (5, (fX5 (a 10) (a 11) (a 12) (a 13)))), (aI k (a 10) 10 (vv n1 see1 tm1 g1)), (aI k (a 12) 24 fp1), (aI k (a 13) 4 fl1), (aI k (a 54) 4 wk), (aI k (a 55) 4 (nF br)), ((a 68), .inr (1, (fX1 (a 53) (a 69) (a 70) (a 71) (nI n1) p1 0 0))), (aI k (a 69) 4 (nF pb__6)), (aI k (a 70) 100 pco__5), ((a 53), .inr (4, (fX4 (a 54) (a 55) (nI cc) (nI rz) ro sd)))] hP hD
    clear hP hD
    obtain ⟨hP, hD⟩ := hQ9
    try dsimp only at hw_6
    refine lv_istore (lv' := [(4, .int r_6), (3, .int 0), (0, .ref (a 0)), (1, .int 1), (2, .int p1)]) hx hb dX7_turn_34 hl (by decide) rfl (fun ls hl => ?_)
    refine lv_aload_n hx hb dX7_turn_36 rfl (lv_at hl 2 rfl) ?_
    refine va_get (D := D) (ci := 7) (v := .ref (a 53)) (C := RX7) (T := TX7) (N := 12) hx hb hts inX7 hown hK hP 0 rfl rfl 7 (by decide) (hts _ tw_312) (fun _ h9 => h9) rfl dX7_turn_37 ?_
    refine lv_aload_n hx hb dX7_turn_40 rfl (lv_at hl 2 rfl) ?_
    refine va_get (D := D) (ci := 7) (v := .ref (a 68)) (C := RX7) (T := TX7) (N := 12) hx hb hts inX7 hown hK hP 0 rfl rfl 11 (by decide) (hts _ tw_316) (fun _ h9 => h9) rfl dX7_turn_41 ?_
    refine va_get (D := D) (ci := 1) (v := .ref (a 69)) (C := RX1) (T := TX1) (N := 8) hx hb hts inX1 hown hK hP 17 rfl rfl 1 (by decide) (hts _ tw_237) (fun _ h9 => h9) rfl dX7_turn_44 ?_
    refine rw_v (D := D) (wr := [((a 0), .inr (7, (fX7 (a 1) (a 3) (a 19) (a 35) (a 40) (nI rk) lfa (a 53) (a 56) (a 63) (a 64) (a 68)))), ((a 3), .inl (k 3, 3, .inr (.inr (.inr (.inr (a3 (a 4) (a 9) (a 14))))))), ((a 4), .inr (5, (fX5 (a 5) (a 6) (a 7) (a 8)))), (aI k (a 5) 10 (vv n0 see0 tm0 g0)), (aI k (a 7) 24 fp0), (aI k (a 8) 4 fl0), ((a 14), .inr (5, (fX5 (a 15) (a 16) (a 17) (a 18)))), (aI k (a 15) 10 (vv n2 see2 tm2 g2)), (aI k (a 17) 24 fp2), (aI k (a 18) 4 fl2), (aI k (a 71) 16 pg), ((a 9), .inr (5, (fX5 (a 10) (a 11) (a 12) (a 13)))), (aI k (a 10) 10 (vv n1 see1 tm1 g1)), (aI k (a 12) 24 fp1), (aI k (a 13) 4 fl1), ((a 68), .inr (1, (fX1 (a 53) (a 69) (a 70) (a 71) (nI n1) p1 0 0))), (aI k (a 70) 100 pco__5)]) (va_runV (As := [.ref (a 69)]) (rest := []) ⟨hx, hb, hml, hown, hts⟩ ((x_takeBars l D k st lo (a 53) (a 54) (a 55) cc rz ro sd wk br (a 69) pb__6 hbr hw_6) H.size) (cwV 1 hts (gV tw_879 tw_880 tw_881 tw_82 tw_882) rfl rfl rfl (by decide +kernel) ⟨Nat.le_of_ble_eq_true rfl, Nat.le_of_ble_eq_true rfl⟩) (pV hS hAlo hlo hP hK (va_Dlo hD hAlo) hZ [20, 15, 16, 18] (by decide) rfl (ci := 4) (q := (RX4, TX4, 6)) (q0 := 0) rfl rfl) rfl rfl hl.1 rfl (lv_room (Nat.le_of_ble_eq_true rfl)) dX7_turn_47 ⟨Nat.le_of_ble_eq_true rfl, Nat.le_of_ble_eq_true rfl⟩) hS hA hP hD [20, 15, 16, 18] [0, 1, 2, 3, 4, 5, 6, 7, 8, 9, 10, 11, 12, 13, 14, 17, 19] rfl rfl (by decide +kernel) (by decide +kernel) (fun u H locs hw_7 hP hD hS => ?_)
    obtain ⟨br__7, rfl⟩ : ∃ z, z = u := ⟨_, rfl⟩
    have hQ9 := pd_mk [((a 0), .inr (7, (fX7 (a 1) (a 3) (a 19) (a 35) (a 40) (nI rk) lfa (a 53) (a 56) (a 63) (a 64) (a 68)))), ((a 3), .inl (k 3, 3, .inr (.inr (.inr (.inr (a3 (a 4) (a 9) (a 14))))))), ((a 4), .inr (5, (fX5 (a 5) (a 6) (a 7) (a 8)))), (aI k (a 5) 10 (vv n0 see0 tm0 g0)), (aI k (a 7) 24 fp0), (aI k (a 8) 4 fl0), ((a 14), .inr (5, (fX5 (a 15) (a 16) (a 17) (a 18)))), (aI k (a 15) 10 (vv n2 see2 tm2 g2)), (aI k (a 17) 24 fp2), (aI k (a 18) 4 fl2), (aI k (a 71) 16 pg), ((a 9), .inr (5, (fX5 (a 10) (a 11) (a 12) (a 13)))), (aI k (a 10) 10 (vv n1 see1 tm1 g1)), (aI k (a 12) 24 fp1), (aI k (a 13) 4 fl1), ((a 68), .inr (1, (fX1 (a 53) (a 69) (a 70) (a 71) (nI n1) p1 0 0))), (aI k (a 70) 100 pco__5), ((a 53), .inr (4, (fX4 (a 54) (a 55) (nI cc) (nI rz) ro sd))), (aI k (a 54) 4 wk), (aI k (a 55) 4 (nF br__7)), (aI k (a 69) 4 (nF pb__6))] hP hD
    clear hP hD
    obtain ⟨hP, hD⟩ := hQ9
    try dsimp only at hw_7
    refine lv_iload hx hb dX7_turn_50 (lv_at hl 0 rfl) ?_
    obtain ⟨hP9, hD9⟩ := pd_sub [((a 0), .inr (7, (fX7 (a 1) (a 3) (a 19) (a 35) (a 40) (nI rk) lfa (a 53) (a 56) (a 63) (a 64) (a 68)))), ((a 3), .inl (k 3, 3, .inr (.inr (.inr (.inr (a3 (a 4) (a 9) (a 14))))))), ((a 4), .inr (5, (fX5 (a 5) (a 6) (a 7) (a 8)))), (aI k (a 5) 10 (vv n0 see0 tm0 g0)), (aI k (a 7) 24 fp0), (aI k (a 8) 4 fl0), ((a 9), .inr (5, (fX5 (a 10) (a 11) (a 12) (a 13)))), (aI k (a 10) 10 (vv n1 see1 tm1 g1)), (aI k (a 12) 24 fp1), (aI k (a 13) 4 fl1), ((a 14), .inr (5, (fX5 (a 15) (a 16) (a 17) (a 18)))), (aI k (a 15) 10 (vv n2 see2 tm2 g2)), (aI k (a 17) 24 fp2), (aI k (a 18) 4 fl2), ((a 53), .inr (4, (fX4 (a 54) (a 55) (nI cc) (nI rz) ro sd))), (aI k (a 54) 4 wk), (aI k (a 55) 4 (nF br__7)), ((a 68), .inr (1, (fX1 (a 53) (a 69) (a 70) (a 71) (nI n1) p1 0 0))), (aI k (a 69) 4 (nF pb__6)), (aI k (a 70) 100 pco__5), (aI k (a 71) 16 pg)] [0, 1, 2, 3, 4, 5, 11, 12, 13, 14, 6, 7, 8, 9, 17, 18, 19, 15, 20, 16, 10] hP hD (by decide +kernel) rfl
    exact W.iret (v := r_6) hx hb hr (fun t ht hW => ⟨⟨r_6, ((nI n1), p1, 0, 0, pb__6, pco__5, br__7), rfl, ⟨hw_6, hw_7⟩, by rw [ht]; exact hP9, hD9⟩, hS.F ht⟩) hS.2.2 dX7_turn_52
  · refine lv_istore_n (lv' := [(3, .int 0), (0, .ref (a 0)), (1, .int 2), (2, .int p1)]) hx hb dX7_turn_6 rfl hl (by decide) rfl (fun ls hl => ?_)
    refine lv_iload_n hx hb dX7_turn_7 rfl (lv_at hl 0 rfl) ?_
    refine lv_if_eq (tgt := 13) hx hb dX7_turn_8 (by decide) (fun _ => ?_) (fun h => absurd (by decide) h)
    refine lv_aload_n hx hb dX7_turn_13 rfl (lv_at hl 1 rfl) ?_
    refine va_get (D := D) (ci := 7) (v := .ref (a 68)) (C := RX7) (T := TX7) (N := 12) hx hb hts inX7 hown hK hP 0 rfl rfl 11 (by decide) (hts _ tw_316) (fun _ h9 => h9) rfl dX7_turn_14 ?_
    refine lv_aload_n hx hb dX7_turn_17 rfl (lv_at hl 1 rfl) ?_
    refine va_get (D := D) (ci := 7) (v := .ref (a 3)) (C := RX7) (T := TX7) (N := 12) hx hb hts inX7 hown hK hP 0 rfl rfl 1 (by decide) (hts _ tw_306) (fun _ h9 => h9) rfl dX7_turn_18 ?_
    refine lv_iload_n hx hb dX7_turn_21 rfl (lv_at hl 2 rfl) ?_
    refine va_aldq hx hb hK hP 1 3 rfl rfl (by unfold vp_in; decide) dX7_turn_22 ?_
    refine lv_tr (y := .ref (a 14)) rfl ?_
    refine lv_iload_n hx hb dX7_turn_23 rfl (lv_at hl 3 rfl) ?_
    refine rw_v (D := D) (wr := [((a 0), .inr (7, (fX7 (a 1) (a 3) (a 19) (a 35) (a 40) (nI rk) lfa (a 53) (a 56) (a 63) (a 64) (a 68)))), ((a 3), .inl (k 3, 3, .inr (.inr (.inr (.inr (a3 (a 4) (a 9) (a 14))))))), ((a 4), .inr (5, (fX5 (a 5) (a 6) (a 7) (a 8)))), (aI k (a 5) 10 (vv n0 see0 tm0 g0)), (aI k (a 7) 24 fp0), (aI k (a 8) 4 fl0), ((a 9), .inr (5, (fX5 (a 10) (a 11) (a 12) (a 13)))), (aI k (a 10) 10 (vv n1 see1 tm1 g1)), (aI k (a 12) 24 fp1), (aI k (a 13) 4 fl1), (aI k (a 71) 16 pg)]) (va_runV (As := [.ref (a 14), .int p1]) (rest := []) ⟨hx, hb, hml, hown, hts⟩ ((x_comeTo l D k st lo (a 53) (a 68) (a 69) (a 70) (a 71) pn pf pd pe pb pco (a 14) (a 15) (a 16) (a 17) (a 18) n2 see2 tm2 g2 fp2 fl2 (a 54) (a 55) cc rz ro sd wk br p1 (by first | assumption | omega) (by first | assumption | omega) hbr hpb) H.size) (cwV 2 hts (gV tw_821 tw_822 tw_823 tw_84 tw_824) rfl rfl rfl (by decide +kernel) ⟨Nat.le_of_ble_eq_true rfl, Nat.le_of_ble_eq_true rfl⟩) (pV hS hAlo hlo hP hK (va_Dlo hD hAlo) hZ [17, 18, 19, 10, 11, 12, 13, 14, 15, 16] (by decide +kernel) rfl (ci := 1) (q := (RX1, TX1, 8)) (q0 := 0) rfl rfl) rfl rfl hl.1 rfl (lv_room (Nat.le_of_ble_eq_true rfl)) dX7_turn_24 ⟨Nat.le_of_ble_eq_true rfl, Nat.le_of_ble_eq_true rfl⟩) hS hA hP hD [17, 18, 19, 10, 11, 12, 13, 14, 15, 16] [0, 1, 2, 3, 4, 5, 6, 7, 8, 9, 20] rfl rfl (by decide +kernel) (by decide +kernel) (fun u H locs hw_8 hP hD hS => ?_)
    obtain ⟨pb__8, pco__8⟩ := u
    have hQ9 := pd_mk [((a 0), .inr (7, (fX7 (a 1) (a 3) (a 19) (a 35) (a 40) (nI rk) lfa (a 53) (a 56) (a 63) (a 64) (a 68)))), ((a 3), .inl (k 3, 3, .inr (.inr (.inr (.inr (a3 (a 4) (a 9) (a 14))))))), ((a 4), .inr (5, (fX5 (a 5) (a 6) (a 7) (a 8)))), (aI k (a 5) 10 (vv n0 see0 tm0 g0)), (aI k (a 7) 24 fp0), (aI k (a 8) 4 fl0), ((a 9), .inr (5, (fX5 (a 10) (a 11) (a 12) (a 13)))), (aI k (a 10) 10 (vv n1 see1 tm1 g1)), (aI k (a 12) 24 fp1), (aI k (a 13) 4 fl1), (aI k (a 71) 16 pg), ((a 68), .inr (1, (fX1 (a 53) (a 69) (a 70) (a 71) (nI n2) p1 0 0))), (aI k (a 69) 4 (nF pb__8)), (aI k (a 70) 100 pco__8), ((a 14), .inr (5, (fX5 (a 15) (a 16) (a 17) (a 18)))), (aI k (a 15) 10 (vv n2 see2 tm2 g2)), (aI k (a 17) 24 fp2), (aI k (a 18) 4 fl2), ((a 53), .inr (4, (fX4 (a 54) (a 55) (nI cc) (nI rz) ro sd))), (aI k (a 54) 4 wk), (aI k (a 55) 4 (nF br))] hP hD
    clear hP hD
    obtain ⟨hP, hD⟩ := hQ9
    try dsimp only at hw_8
    refine lv_aload_n hx hb dX7_turn_27 rfl (lv_at hl 1 rfl) ?_
    refine va_get (D := D) (ci := 7) (v := .ref (a 68)) (C := RX7) (T := TX7) (N := 12) hx hb hts inX7 hown hK hP 0 rfl rfl 11 (by decide) (hts _ tw_316) (fun _ h9 => h9) rfl dX7_turn_28 ?_
    refine rw_i (D := D) (wr := [((a 0), .inr (7, (fX7 (a 1) (a 3) (a 19) (a 35) (a 40) (nI rk) lfa (a 53) (a 56) (a 63) (a 64) (a 68)))), ((a 3), .inl (k 3, 3, .inr (.inr (.inr (.inr (a3 (a 4) (a 9) (a 14))))))), ((a 4), .inr (5, (fX5 (a 5) (a 6) (a 7) (a 8)))), (aI k (a 5) 10 (vv n0 see0 tm0 g0)), (aI k (a 7) 24 fp0), (aI k (a 8) 4 fl0), ((a 9), .inr (5, (fX5 (a 10) (a 11) (a 12) (a 13)))), (aI k (a 10) 10 (vv n1 see1 tm1 g1)), (aI k (a 12) 24 fp1), (aI k (a 13) 4 fl1), (aI k (a 71) 16 pg), ((a 14), .inr (5, (fX5 (a 15) (a 16) (a 17) (a 18)))), (aI k (a 15) 10 (vv n2 see2 tm2 g2)), (aI k (a 17) 24 fp2), (aI k (a 18) 4 fl2), (aI k (a 54) 4 wk), (aI k (a 55) 4 (nF br))]) (va_runV (As := []) (rest := []) ⟨hx, hb, hml, hown, hts⟩ ((x_goByTurns l D k st lo (a 53) (a 68) (a 69) (a 70) (a 71) n2 p1 0 0 pb__8 pco__8 (a 54) (a 55) cc rz ro sd (by first | assumption | omega) (by first | assumption | omega) hw_8) H.size) (cwV 0 hts (gV tw_871 tw_872 tw_873 tw_84 tw_874) rfl rfl rfl (by decide +kernel) ⟨Nat.le_of_ble_eq_true rfl, Nat.le_of_ble_eq_true rfl⟩) (pV hS hAlo hlo hP hK (va_Dlo hD hAlo) hZ [11, 12, 13, 18] (by decide) rfl (ci := 1) (q := (RX1, TX1, 8)) (q0 := 0) rfl rfl) rfl rfl hl.1 rfl (lv_room (Nat.le_of_ble_eq_true rfl)) dX7_turn_31 ⟨Nat.le_of_ble_eq_true rfl, Nat.le_of_ble_eq_true rfl⟩) hS hA hP hD [11, 12, 13, 18] [0, 1, 2, 3, 4, 5, 6, 7, 8, 9, 10, 14, 15, 16, 17, 19, 20] rfl rfl (by decide +kernel) (by decide +kernel) (fun r_9 u H locs hw_9 hP hD hS => ?_)
    obtain ⟨pb__9, rfl⟩ : ∃ z, z = u := ⟨_, rfl⟩
    have hQ9 := pd_mk [((a 0), .inr (7, (fX7 (a 1) (a 3) (a 19) (a 35) (a 40) (nI rk) lfa (a 53) (a 56) (a 63) (a 64) (a 68)))), ((a 3), .inl (k 3, 3, .inr (.inr (.inr (.inr (a3 (a 4) (a 9) (a 14))))))), ((a 4), .inr (5, (fX5 (a 5) (a 6) (a 7) (a 8)))), (aI k (a 5) 10 (vv n0 see0 tm0 g0)), (aI k (a 7) 24 fp0), (aI k (a 8) 4 fl0), ((a 9), .inr (5, (fX5 (a 10) (a 11) (a 12) (a 13)))), (aI k (a 10) 10 (vv n1 see1 tm1 g1)), (aI k (a 12) 24 fp1), (aI k (a 13) 4 fl1), (aI k (a 71) 16 pg), ((a 14), .inr (5, (fX5 (a 15) (a 16) (a 17) (a 18)))), (aI k (a 15) 10 (vv n2 see2 tm2 g2)), (aI k (a 17) 24 fp2), (aI k (a 18) 4 fl2), (aI k (a 54) 4 wk), (aI k (a 55) 4 (nF br)), ((a 68), .inr (1, (fX1 (a 53) (a 69) (a 70) (a 71) (nI n2) p1 0 0))), (aI k (a 69) 4 (nF pb__9)), (aI k (a 70) 100 pco__8), ((a 53), .inr (4, (fX4 (a 54) (a 55) (nI cc) (nI rz) ro sd)))] hP hD
    clear hP hD
    obtain ⟨hP, hD⟩ := hQ9
    try dsimp only at hw_9
    refine lv_istore (lv' := [(4, .int r_9), (3, .int 0), (0, .ref (a 0)), (1, .int 2), (2, .int p1)]) hx hb dX7_turn_34 hl (by decide) rfl (fun ls hl => ?_)
    refine lv_aload_n hx hb dX7_turn_36 rfl (lv_at hl 2 rfl) ?_
    refine va_get (D := D) (ci := 7) (v := .ref (a 53)) (C := RX7) (T := TX7) (N := 12) hx hb hts inX7 hown hK hP 0 rfl rfl 7 (by decide) (hts _ tw_312) (fun _ h9 => h9) rfl dX7_turn_37 ?_
    refine lv_aload_n hx hb dX7_turn_40 rfl (lv_at hl 2 rfl) ?_
    refine va_get (D := D) (ci := 7) (v := .ref (a 68)) (C := RX7) (T := TX7) (N := 12) hx hb hts inX7 hown hK hP 0 rfl rfl 11 (by decide) (hts _ tw_316) (fun _ h9 => h9) rfl dX7_turn_41 ?_
    refine va_get (D := D) (ci := 1) (v := .ref (a 69)) (C := RX1) (T := TX1) (N := 8) hx hb hts inX1 hown hK hP 17 rfl rfl 1 (by decide) (hts _ tw_237) (fun _ h9 => h9) rfl dX7_turn_44 ?_
    refine rw_v (D := D) (wr := [((a 0), .inr (7, (fX7 (a 1) (a 3) (a 19) (a 35) (a 40) (nI rk) lfa (a 53) (a 56) (a 63) (a 64) (a 68)))), ((a 3), .inl (k 3, 3, .inr (.inr (.inr (.inr (a3 (a 4) (a 9) (a 14))))))), ((a 4), .inr (5, (fX5 (a 5) (a 6) (a 7) (a 8)))), (aI k (a 5) 10 (vv n0 see0 tm0 g0)), (aI k (a 7) 24 fp0), (aI k (a 8) 4 fl0), ((a 9), .inr (5, (fX5 (a 10) (a 11) (a 12) (a 13)))), (aI k (a 10) 10 (vv n1 see1 tm1 g1)), (aI k (a 12) 24 fp1), (aI k (a 13) 4 fl1), (aI k (a 71) 16 pg), ((a 14), .inr (5, (fX5 (a 15) (a 16) (a 17) (a 18)))), (aI k (a 15) 10 (vv n2 see2 tm2 g2)), (aI k (a 17) 24 fp2), (aI k (a 18) 4 fl2), ((a 68), .inr (1, (fX1 (a 53) (a 69) (a 70) (a 71) (nI n2) p1 0 0))), (aI k (a 70) 100 pco__8)]) (va_runV (As := [.ref (a 69)]) (rest := []) ⟨hx, hb, hml, hown, hts⟩ ((x_takeBars l D k st lo (a 53) (a 54) (a 55) cc rz ro sd wk br (a 69) pb__9 hbr hw_9) H.size) (cwV 1 hts (gV tw_879 tw_880 tw_881 tw_82 tw_882) rfl rfl rfl (by decide +kernel) ⟨Nat.le_of_ble_eq_true rfl, Nat.le_of_ble_eq_true rfl⟩) (pV hS hAlo hlo hP hK (va_Dlo hD hAlo) hZ [20, 15, 16, 18] (by decide) rfl (ci := 4) (q := (RX4, TX4, 6)) (q0 := 0) rfl rfl) rfl rfl hl.1 rfl (lv_room (Nat.le_of_ble_eq_true rfl)) dX7_turn_47 ⟨Nat.le_of_ble_eq_true rfl, Nat.le_of_ble_eq_true rfl⟩) hS hA hP hD [20, 15, 16, 18] [0, 1, 2, 3, 4, 5, 6, 7, 8, 9, 10, 11, 12, 13, 14, 17, 19] rfl rfl (by decide +kernel) (by decide +kernel) (fun u H locs hw_10 hP hD hS => ?_)
    obtain ⟨br__10, rfl⟩ : ∃ z, z = u := ⟨_, rfl⟩
    have hQ9 := pd_mk [((a 0), .inr (7, (fX7 (a 1) (a 3) (a 19) (a 35) (a 40) (nI rk) lfa (a 53) (a 56) (a 63) (a 64) (a 68)))), ((a 3), .inl (k 3, 3, .inr (.inr (.inr (.inr (a3 (a 4) (a 9) (a 14))))))), ((a 4), .inr (5, (fX5 (a 5) (a 6) (a 7) (a 8)))), (aI k (a 5) 10 (vv n0 see0 tm0 g0)), (aI k (a 7) 24 fp0), (aI k (a 8) 4 fl0), ((a 9), .inr (5, (fX5 (a 10) (a 11) (a 12) (a 13)))), (aI k (a 10) 10 (vv n1 see1 tm1 g1)), (aI k (a 12) 24 fp1), (aI k (a 13) 4 fl1), (aI k (a 71) 16 pg), ((a 14), .inr (5, (fX5 (a 15) (a 16) (a 17) (a 18)))), (aI k (a 15) 10 (vv n2 see2 tm2 g2)), (aI k (a 17) 24 fp2), (aI k (a 18) 4 fl2), ((a 68), .inr (1, (fX1 (a 53) (a 69) (a 70) (a 71) (nI n2) p1 0 0))), (aI k (a 70) 100 pco__8), ((a 53), .inr (4, (fX4 (a 54) (a 55) (nI cc) (nI rz) ro sd))), (aI k (a 54) 4 wk), (aI k (a 55) 4 (nF br__10)), (aI k (a 69) 4 (nF pb__9))] hP hD
    clear hP hD
    obtain ⟨hP, hD⟩ := hQ9
    try dsimp only at hw_10
    refine lv_iload hx hb dX7_turn_50 (lv_at hl 0 rfl) ?_
    obtain ⟨hP9, hD9⟩ := pd_sub [((a 0), .inr (7, (fX7 (a 1) (a 3) (a 19) (a 35) (a 40) (nI rk) lfa (a 53) (a 56) (a 63) (a 64) (a 68)))), ((a 3), .inl (k 3, 3, .inr (.inr (.inr (.inr (a3 (a 4) (a 9) (a 14))))))), ((a 4), .inr (5, (fX5 (a 5) (a 6) (a 7) (a 8)))), (aI k (a 5) 10 (vv n0 see0 tm0 g0)), (aI k (a 7) 24 fp0), (aI k (a 8) 4 fl0), ((a 9), .inr (5, (fX5 (a 10) (a 11) (a 12) (a 13)))), (aI k (a 10) 10 (vv n1 see1 tm1 g1)), (aI k (a 12) 24 fp1), (aI k (a 13) 4 fl1), ((a 14), .inr (5, (fX5 (a 15) (a 16) (a 17) (a 18)))), (aI k (a 15) 10 (vv n2 see2 tm2 g2)), (aI k (a 17) 24 fp2), (aI k (a 18) 4 fl2), ((a 53), .inr (4, (fX4 (a 54) (a 55) (nI cc) (nI rz) ro sd))), (aI k (a 54) 4 wk), (aI k (a 55) 4 (nF br__10)), ((a 68), .inr (1, (fX1 (a 53) (a 69) (a 70) (a 71) (nI n2) p1 0 0))), (aI k (a 69) 4 (nF pb__9)), (aI k (a 70) 100 pco__8), (aI k (a 71) 16 pg)] [0, 1, 2, 3, 4, 5, 6, 7, 8, 9, 11, 12, 13, 14, 17, 18, 19, 15, 20, 16, 10] hP hD (by decide +kernel) rfl
    exact W.iret (v := r_9) hx hb hr (fun t ht hW => ⟨⟨r_9, ((nI n2), p1, 0, 0, pb__9, pco__8, br__10), rfl, ⟨hw_9, hw_10⟩, by rw [ht]; exact hP9, hD9⟩, hS.F ht⟩) hS.2.2 dX7_turn_52
  · refine lv_istore_n (lv' := [(3, .int (-1001)), (0, .ref (a 0)), (1, .int p0), (2, .int p1)]) hx hb dX7_turn_6 rfl hl (by decide) rfl (fun ls hl => ?_)
    refine lv_iload_n hx hb dX7_turn_7 rfl (lv_at hl 0 rfl) ?_
    refine lv_if_eq (tgt := 13) hx hb dX7_turn_8 (by decide) (fun h => absurd h (by decide)) (fun _ => ?_)
    refine lv_iload_n hx hb dX7_turn_11 rfl (lv_at hl 0 rfl) ?_
    obtain ⟨hP9, hD9⟩ := pd_sub [((a 0), .inr (7, (fX7 (a 1) (a 3) (a 19) (a 35) (a 40) (nI rk) lfa (a 53) (a 56) (a 63) (a 64) (a 68)))), ((a 3), .inl (k 3, 3, .inr (.inr (.inr (.inr (a3 (a 4) (a 9) (a 14))))))), ((a 4), .inr (5, (fX5 (a 5) (a 6) (a 7) (a 8)))), (aI k (a 5) 10 (vv n0 see0 tm0 g0)), (aI k (a 7) 24 fp0), (aI k (a 8) 4 fl0), ((a 9), .inr (5, (fX5 (a 10) (a 11) (a 12) (a 13)))), (aI k (a 10) 10 (vv n1 see1 tm1 g1)), (aI k (a 12) 24 fp1), (aI k (a 13) 4 fl1), ((a 14), .inr (5, (fX5 (a 15) (a 16) (a 17) (a 18)))), (aI k (a 15) 10 (vv n2 see2 tm2 g2)), (aI k (a 17) 24 fp2), (aI k (a 18) 4 fl2), ((a 53), .inr (4, (fX4 (a 54) (a 55) (nI cc) (nI rz) ro sd))), (aI k (a 54) 4 wk), (aI k (a 55) 4 (nF br)), ((a 68), .inr (1, (fX1 (a 53) (a 69) (a 70) (a 71) pn pf pd pe))), (aI k (a 69) 4 (nF pb)), (aI k (a 70) 100 pco), (aI k (a 71) 16 pg)] [0, 1, 2, 3, 4, 5, 6, 7, 8, 9, 10, 11, 12, 13, 14, 15, 16, 17, 18, 19, 20] hP hD (by decide +kernel) rfl
    exact W.iret (v := (-1001)) hx hb hr (fun t ht hW => ⟨⟨(-1001), (pn, pf, pd, pe, pb, pco, br), rfl, ⟨hpb, hbr⟩, by rw [ht]; exact hP9, hD9⟩, hS.F ht⟩) hS.2.2 dX7_turn_12
  · refine lv_istore_n (lv' := [(3, .int (-1002)), (0, .ref (a 0)), (1, .int p0), (2, .int p1)]) hx hb dX7_turn_6 rfl hl (by decide) rfl (fun ls hl => ?_)
    refine lv_iload_n hx hb dX7_turn_7 rfl (lv_at hl 0 rfl) ?_
    refine lv_if_eq (tgt := 13) hx hb dX7_turn_8 (by decide) (fun h => absurd h (by decide)) (fun _ => ?_)
    refine lv_iload_n hx hb dX7_turn_11 rfl (lv_at hl 0 rfl) ?_
    obtain ⟨hP9, hD9⟩ := pd_sub [((a 0), .inr (7, (fX7 (a 1) (a 3) (a 19) (a 35) (a 40) (nI rk) lfa (a 53) (a 56) (a 63) (a 64) (a 68)))), ((a 3), .inl (k 3, 3, .inr (.inr (.inr (.inr (a3 (a 4) (a 9) (a 14))))))), ((a 4), .inr (5, (fX5 (a 5) (a 6) (a 7) (a 8)))), (aI k (a 5) 10 (vv n0 see0 tm0 g0)), (aI k (a 7) 24 fp0), (aI k (a 8) 4 fl0), ((a 9), .inr (5, (fX5 (a 10) (a 11) (a 12) (a 13)))), (aI k (a 10) 10 (vv n1 see1 tm1 g1)), (aI k (a 12) 24 fp1), (aI k (a 13) 4 fl1), ((a 14), .inr (5, (fX5 (a 15) (a 16) (a 17) (a 18)))), (aI k (a 15) 10 (vv n2 see2 tm2 g2)), (aI k (a 17) 24 fp2), (aI k (a 18) 4 fl2), ((a 53), .inr (4, (fX4 (a 54) (a 55) (nI cc) (nI rz) ro sd))), (aI k (a 54) 4 wk), (aI k (a 55) 4 (nF br)), ((a 68), .inr (1, (fX1 (a 53) (a 69) (a 70) (a 71) pn pf pd pe))), (aI k (a 69) 4 (nF pb)), (aI k (a 70) 100 pco), (aI k (a 71) 16 pg)] [0, 1, 2, 3, 4, 5, 6, 7, 8, 9, 10, 11, 12, 13, 14, 15, 16, 17, 18, 19, 20] hP hD (by decide +kernel) rfl
    exact W.iret (v := (-1002)) hx hb hr (fun t ht hW => ⟨⟨(-1002), (pn, pf, pd, pe, pb, pco, br), rfl, ⟨hpb, hbr⟩, by rw [ht]; exact hP9, hD9⟩, hS.F ht⟩) hS.2.2 dX7_turn_12

theorem f_x_allRests_rows : True := trivial
theorem dX7_allRests_0 : decode cX7_allRests 0 = .ok (.aload_n 0, 1) := by decide +kernel
theorem dX7_allRests_1 : decode cX7_allRests 1 = .ok (.iload_n 1, 1) := by decide +kernel
theorem dX7_allRests_2 : decode cX7_allRests 2 = .ok (.iload_n 2, 1) := by decide +kernel
theorem dX7_allRests_3 : decode cX7_allRests 3 = .ok (.invokevirtual 239, 3) := by decide +kernel
theorem dX7_allRests_6 : decode cX7_allRests 6 = .ok (.istore_n 3, 1) := by decide +kernel
theorem dX7_allRests_7 : decode cX7_allRests 7 = .ok (.iload_n 3, 1) := by decide +kernel
theorem dX7_allRests_8 : decode cX7_allRests 8 = .ok (.ifCond .eq 5, 3) := by decide +kernel
theorem dX7_allRests_11 : decode cX7_allRests 11 = .ok (.iload_n 3, 1) := by decide +kernel
theorem dX7_allRests_12 : decode cX7_allRests 12 = .ok (.ireturn, 1) := by decide +kernel
theorem dX7_allRests_13 : decode cX7_allRests 13 = .ok (.aload_n 0, 1) := by decide +kernel
theorem dX7_allRests_14 : decode cX7_allRests 14 = .ok (.getfield 49, 3) := by decide +kernel
theorem dX7_allRests_17 : decode cX7_allRests 17 = .ok (.getfield 214, 3) := by decide +kernel
theorem dX7_allRests_20 : decode cX7_allRests 20 = .ok (.iconst 2, 1) := by decide +kernel
theorem dX7_allRests_21 : decode cX7_allRests 21 = .ok (.if_icmp .le 7, 3) := by decide +kernel
theorem dX7_allRests_24 : decode cX7_allRests 24 = .ok (.sipush (-1003), 3) := by decide +kernel
theorem dX7_allRests_27 : decode cX7_allRests 27 = .ok (.ireturn, 1) := by decide +kernel
theorem dX7_allRests_28 : decode cX7_allRests 28 = .ok (.aload_n 0, 1) := by decide +kernel
theorem dX7_allRests_29 : decode cX7_allRests 29 = .ok (.getfield 73, 3) := by decide +kernel
theorem dX7_allRests_32 : decode cX7_allRests 32 = .ok (.aload_n 0, 1) := by decide +kernel
theorem dX7_allRests_33 : decode cX7_allRests 33 = .ok (.getfield 18, 3) := by decide +kernel
theorem dX7_allRests_36 : decode cX7_allRests 36 = .ok (.iload_n 1, 1) := by decide +kernel
theorem dX7_allRests_37 : decode cX7_allRests 37 = .ok (.aaload, 1) := by decide +kernel
theorem dX7_allRests_38 : decode cX7_allRests 38 = .ok (.iload_n 2, 1) := by decide +kernel
theorem dX7_allRests_39 : decode cX7_allRests 39 = .ok (.invokevirtual 229, 3) := by decide +kernel
theorem dX7_allRests_42 : decode cX7_allRests 42 = .ok (.aload_n 0, 1) := by decide +kernel
theorem dX7_allRests_43 : decode cX7_allRests 43 = .ok (.getfield 73, 3) := by decide +kernel
theorem dX7_allRests_46 : decode cX7_allRests 46 = .ok (.invokevirtual 254, 3) := by decide +kernel
theorem dX7_allRests_49 : decode cX7_allRests 49 = .ok (.ireturn, 1) := by decide +kernel
theorem dX7_lost_0 : decode cX7_lost 0 = .ok (.aload_n 0, 1) := by decide +kernel
theorem dX7_lost_1 : decode cX7_lost 1 = .ok (.iload_n 1, 1) := by decide +kernel
theorem dX7_lost_2 : decode cX7_lost 2 = .ok (.iload_n 2, 1) := by decide +kernel
theorem dX7_lost_3 : decode cX7_lost 3 = .ok (.invokevirtual 239, 3) := by decide +kernel
theorem dX7_lost_6 : decode cX7_lost 6 = .ok (.istore_n 3, 1) := by decide +kernel
theorem dX7_lost_7 : decode cX7_lost 7 = .ok (.iload_n 3, 1) := by decide +kernel
theorem dX7_lost_8 : decode cX7_lost 8 = .ok (.ifCond .eq 5, 3) := by decide +kernel
theorem dX7_lost_11 : decode cX7_lost 11 = .ok (.iload_n 3, 1) := by decide +kernel
theorem dX7_lost_12 : decode cX7_lost 12 = .ok (.ireturn, 1) := by decide +kernel
theorem dX7_lost_13 : decode cX7_lost 13 = .ok (.aload_n 0, 1) := by decide +kernel
theorem dX7_lost_14 : decode cX7_lost 14 = .ok (.getfield 73, 3) := by decide +kernel
theorem dX7_lost_17 : decode cX7_lost 17 = .ok (.aload_n 0, 1) := by decide +kernel
theorem dX7_lost_18 : decode cX7_lost 18 = .ok (.getfield 18, 3) := by decide +kernel
theorem dX7_lost_21 : decode cX7_lost 21 = .ok (.iload_n 1, 1) := by decide +kernel
theorem dX7_lost_22 : decode cX7_lost 22 = .ok (.aaload, 1) := by decide +kernel
theorem dX7_lost_23 : decode cX7_lost 23 = .ok (.iload_n 2, 1) := by decide +kernel
theorem dX7_lost_24 : decode cX7_lost 24 = .ok (.invokevirtual 229, 3) := by decide +kernel
theorem dX7_lost_27 : decode cX7_lost 27 = .ok (.aload_n 0, 1) := by decide +kernel
theorem dX7_lost_28 : decode cX7_lost 28 = .ok (.getfield 73, 3) := by decide +kernel
theorem dX7_lost_31 : decode cX7_lost 31 = .ok (.invokevirtual 257, 3) := by decide +kernel
theorem dX7_lost_34 : decode cX7_lost 34 = .ok (.aload_n 0, 1) := by decide +kernel
theorem dX7_lost_35 : decode cX7_lost 35 = .ok (.getfield 73, 3) := by decide +kernel
theorem dX7_lost_38 : decode cX7_lost 38 = .ok (.invokevirtual 260, 3) := by decide +kernel
theorem dX7_lost_41 : decode cX7_lost 41 = .ok (.isub, 1) := by decide +kernel
theorem dX7_lost_42 : decode cX7_lost 42 = .ok (.ireturn, 1) := by decide +kernel
set_option maxHeartbeats 4000000 in
set_option maxRecDepth 100000 in
theorem x_lost (l : Launch) (D : va_G) (k : Nat → ClassId) (st : Nat → Nat) (lo : Nat) (a : Nat → Nat) (rk : Nat) (lfa : Int32) (n0 : Nat) (see0 : Nat) (tm0 : Nat) (g0 : Nat → Int32) (fp0 : Nat → Int32) (fl0 : Nat → Int32) (n1 : Nat) (see1 : Nat) (tm1 : Nat) (g1 : Nat → Int32) (fp1 : Nat → Int32) (fl1 : Nat → Int32) (n2 : Nat) (see2 : Nat) (tm2 : Nat) (g2 : Nat → Int32) (fp2 : Nat → Int32) (fl2 : Nat → Int32) (cc : Nat) (rz : Nat) (ro : Int32) (sd : Int32) (wk : Nat → Int32) (br : Nat → Nat) (pn : Int32) (pf : Int32) (pd : Int32) (pe : Int32) (pb : Nat → Nat) (pco : Nat → Int32) (pg : Nat → Int32) (p0 : Int32) (p1 : Int32) (hn0 : n0 ≤ 24) (hse0 : see0 ≤ 2) (htm0 : tm0 ≤ 3) (hn1 : n1 ≤ 24) (hse1 : see1 ≤ 2) (htm1 : tm1 ≤ 3) (hn2 : n2 ≤ 24) (hse2 : see2 ≤ 2) (htm2 : tm2 ≤ 3) (hcc : cc ≤ 4) (hbr : ∀ j, br j ≤ 24) (hpb : ∀ j, pb j ≤ 24) : CWi l D k st lo yX7_lost cX7_lost 4 (some .int) ({ frames := 3, cells := 0, slots := 0, locals := 108 }) 0 0 [.ref (a 0), .int p0, .int p1] [((a 0), .inr (7, (fX7 (a 1) (a 3) (a 19) (a 35) (a 40) (nI rk) lfa (a 53) (a 56) (a 63) (a 64) (a 68)))), ((a 3), .inl (k 3, 3, .inr (.inr (.inr (.inr (a3 (a 4) (a 9) (a 14))))))), ((a 4), .inr (5, (fX5 (a 5) (a 6) (a 7) (a 8)))), (aI k (a 5) 10 (vv n0 see0 tm0 g0)), (aI k (a 7) 24 fp0), (aI k (a 8) 4 fl0), ((a 9), .inr (5, (fX5 (a 10) (a 11) (a 12) (a 13)))), (aI k (a 10) 10 (vv n1 see1 tm1 g1)), (aI k (a 12) 24 fp1), (aI k (a 13) 4 fl1), ((a 14), .inr (5, (fX5 (a 15) (a 16) (a 17) (a 18)))), (aI k (a 15) 10 (vv n2 see2 tm2 g2)), (aI k (a 17) 24 fp2), (aI k (a 18) 4 fl2), ((a 53), .inr (4, (fX4 (a 54) (a 55) (nI cc) (nI rz) ro sd))), (aI k (a 54) 4 wk), (aI k (a 55) 4 (nF br)), ((a 68), .inr (1, (fX1 (a 53) (a 69) (a 70) (a 71) pn pf pd pe))), (aI k (a 69) 4 (nF pb)), (aI k (a 70) 100 pco), (aI k (a 71) 16 pg)] (fun (r : Int32) (u : Int32 × Int32 × Int32 × Int32 × (Nat → Nat) × (Nat → Int32) × (Nat → Int32)) => match u with | (pn_, pf_, pd_, pe_, pb_, pco_, pg_) => ∀ j, pb_ j ≤ 24) (fun (u : Int32 × Int32 × Int32 × Int32 × (Nat → Nat) × (Nat → Int32) × (Nat → Int32)) => match u with | (pn_, pf_, pd_, pe_, pb_, pco_, pg_) => [((a 0), .inr (7, (fX7 (a 1) (a 3) (a 19) (a 35) (a 40) (nI rk) lfa (a 53) (a 56) (a 63) (a 64) (a 68)))), ((a 3), .inl (k 3, 3, .inr (.inr (.inr (.inr (a3 (a 4) (a 9) (a 14))))))), ((a 4), .inr (5, (fX5 (a 5) (a 6) (a 7) (a 8)))), (aI k (a 5) 10 (vv n0 see0 tm0 g0)), (aI k (a 7) 24 fp0), (aI k (a 8) 4 fl0), ((a 9), .inr (5, (fX5 (a 10) (a 11) (a 12) (a 13)))), (aI k (a 10) 10 (vv n1 see1 tm1 g1)), (aI k (a 12) 24 fp1), (aI k (a 13) 4 fl1), ((a 14), .inr (5, (fX5 (a 15) (a 16) (a 17) (a 18)))), (aI k (a 15) 10 (vv n2 see2 tm2 g2)), (aI k (a 17) 24 fp2), (aI k (a 18) 4 fl2), ((a 53), .inr (4, (fX4 (a 54) (a 55) (nI cc) (nI rz) ro sd))), (aI k (a 54) 4 wk), (aI k (a 55) 4 (nF br)), ((a 68), .inr (1, (fX1 (a 53) (a 69) (a 70) (a 71) pn_ pf_ pd_ pe_))), (aI k (a 69) 4 (nF pb_)), (aI k (a 70) 100 pco_), (aI k (a 71) 16 pg_)]) := by
  intro sz
  refine Met.ofW (cc := cX7_lost) (maxL := 4) (ret := (some .int)) (by decide) rfl ?_
  intro p e s m args below meth c s₁ B hml hv
  obtain ⟨rfl, hsz, hlo, hP, hK, hDL, hZ⟩ := hv
  have hx := B.exec
  have hb := B.bytes
  have hr := B.returns
  have hts := WS_ts B.pre
  have hown : s.vm.findClass RX7 = some m.cls := findClass_of_methodNamed B.named
  have hlocks := B.notSynchronized
  subst hsz
  have hD := hDL.self (sz := s.heap.size)
  have hAlo := A_lo hDL hlo
  generalize hAe : va_A [((a 0), .inr (7, (fX7 (a 1) (a 3) (a 19) (a 35) (a 40) (nI rk) lfa (a 53) (a 56) (a 63) (a 64) (a 68)))), ((a 3), .inl (k 3, 3, .inr (.inr (.inr (.inr (a3 (a 4) (a 9) (a 14))))))), ((a 4), .inr (5, (fX5 (a 5) (a 6) (a 7) (a 8)))), (aI k (a 5) 10 (vv n0 see0 tm0 g0)), (aI k (a 7) 24 fp0), (aI k (a 8) 4 fl0), ((a 9), .inr (5, (fX5 (a 10) (a 11) (a 12) (a 13)))), (aI k (a 10) 10 (vv n1 see1 tm1 g1)), (aI k (a 12) 24 fp1), (aI k (a 13) 4 fl1), ((a 14), .inr (5, (fX5 (a 15) (a 16) (a 17) (a 18)))), (aI k (a 15) 10 (vv n2 see2 tm2 g2)), (aI k (a 17) 24 fp2), (aI k (a 18) 4 fl2), ((a 53), .inr (4, (fX4 (a 54) (a 55) (nI cc) (nI rz) ro sd))), (aI k (a 54) 4 wk), (aI k (a 55) 4 (nF br)), ((a 68), .inr (1, (fX1 (a 53) (a 69) (a 70) (a 71) pn pf pd pe))), (aI k (a 69) 4 (nF pb)), (aI k (a 70) 100 pco), (aI k (a 71) 16 pg)] s.heap.size = A at hD hAlo ⊢
  have hA : ∀ q : Nat, s.heap.size ≤ q → A q := fun q h => by rw [← hAe]; exact Or.inr h
  have hS : va_S A s.heap s.heap [] := va_S.rf
  have hl := lv_entry ([.ref (a 0), .int p0, .int p1]) (n := 4) (Nat.le_of_ble_eq_true rfl)
  rw [lg_entry_eq]
  generalize (lg_sl ([.ref (a 0), .int p0, .int p1]) ++ List.replicate (4 - (lg_sl ([.ref (a 0), .int p0, .int p1])).length) Slot.unset).toArray = ls at hl ⊢
  have hl : lv_has ls 4 [(0, .ref (a 0)), (1, .int p0), (2, .int p1)] := hl
  refine lv_aload_n hx hb dX7_lost_0 rfl (lv_at hl 0 rfl) ?_
  refine lv_iload_n hx hb dX7_lost_1 rfl (lv_at hl 1 rfl) ?_
  refine lv_iload_n hx hb dX7_lost_2 rfl (lv_at hl 2 rfl) ?_
  refine ro_i (D := D) (va_runV (As := [.int p0, .int p1]) (rest := []) ⟨hx, hb, hml, hown, hts⟩ ((x_refuseSet l D k st lo a rk lfa n0 see0 tm0 g0 n1 see1 tm1 g1 n2 see2 tm2 g2 p0 p1 (by first | assumption | omega) (by first | assumption | omega) (by first | assumption | omega)) s.heap.size) (cwV 2 hts (gV tw_850 tw_852 tw_21 tw_79 tw_853) rfl rfl rfl (by decide +kernel) ⟨Nat.le_of_ble_eq_true rfl, Nat.le_of_ble_eq_true rfl⟩) (pV hS hAlo hlo hP hK (va_Dlo hD hAlo) hZ [0, 1, 2, 3, 6, 7, 10, 11] (by decide) rfl (ci := 7) (q := (RX7, TX7, 12)) (q0 := 0) rfl rfl) rfl rfl hl.1 rfl (lv_room (Nat.le_of_ble_eq_true rfl)) dX7_lost_3 ⟨Nat.le_of_ble_eq_true rfl, Nat.le_of_ble_eq_true rfl⟩) hS hA hP (fun r_1 H locs hw_1 hP hS => ?_)
  try dsimp only at hw_1
  rcases hw_1 with ⟨rfl, rfl | rfl | rfl⟩ | rfl | rfl
  · refine lv_istore_n (lv' := [(3, .int 0), (0, .ref (a 0)), (1, .int 0), (2, .int p1)]) hx hb dX7_lost_6 rfl hl (by decide) rfl (fun ls hl => ?_)
    refine lv_iload_n hx hb dX7_lost_7 rfl (lv_at hl 0 rfl) ?_
    refine lv_if_eq (tgt := 13) hx hb dX7_lost_8 (by decide) (fun _ => ?_) (fun h => absurd (by decide) h)
    refine lv_aload_n hx hb dX7_lost_13 rfl (lv_at hl 1 rfl) ?_
    refine va_get (D := D) (ci := 7) (v := .ref (a 68)) (C := RX7) (T := TX7) (N := 12) hx hb hts inX7 hown hK hP 0 rfl rfl 11 (by decide) (hts _ tw_316) (fun _ h9 => h9) rfl dX7_lost_14 ?_
    refine lv_aload_n hx hb dX7_lost_17 rfl (lv_at hl 1 rfl) ?_
    refine va_get (D := D) (ci := 7) (v := .ref (a 3)) (C := RX7) (T := TX7) (N := 12) hx hb hts inX7 hown hK hP 0 rfl rfl 1 (by decide) (hts _ tw_306) (fun _ h9 => h9) rfl dX7_lost_18 ?_
    refine lv_iload_n hx hb dX7_lost_21 rfl (lv_at hl 2 rfl) ?_
    refine va_aldq hx hb hK hP 1 3 rfl rfl (by unfold vp_in; decide) dX7_lost_22 ?_
    refine lv_tr (y := .ref (a 4)) rfl ?_
    refine lv_iload_n hx hb dX7_lost_23 rfl (lv_at hl 3 rfl) ?_
    refine rw_v (D := D) (wr := [((a 0), .inr (7, (fX7 (a 1) (a 3) (a 19) (a 35) (a 40) (nI rk) lfa (a 53) (a 56) (a 63) (a 64) (a 68)))), ((a 3), .inl (k 3, 3, .inr (.inr (.inr (.inr (a3 (a 4) (a 9) (a 14))))))), ((a 9), .inr (5, (fX5 (a 10) (a 11) (a 12) (a 13)))), (aI k (a 10) 10 (vv n1 see1 tm1 g1)), (aI k (a 12) 24 fp1), (aI k (a 13) 4 fl1), ((a 14), .inr (5, (fX5 (a 15) (a 16) (a 17) (a 18)))), (aI k (a 15) 10 (vv n2 see2 tm2 g2)), (aI k (a 17) 24 fp2), (aI k (a 18) 4 fl2), (aI k (a 71) 16 pg)]) (va_runV (As := [.ref (a 4), .int p1]) (rest := []) ⟨hx, hb, hml, hown, hts⟩ ((x_comeTo l D k st lo (a 53) (a 68) (a 69) (a 70) (a 71) pn pf pd pe pb pco (a 4) (a 5) (a 6) (a 7) (a 8) n0 see0 tm0 g0 fp0 fl0 (a 54) (a 55) cc rz ro sd wk br p1 (by first | assumption | omega) (by first | assumption | omega) hbr hpb) H.size) (cwV 2 hts (gV tw_821 tw_822 tw_823 tw_84 tw_824) rfl rfl rfl (by decide +kernel) ⟨Nat.le_of_ble_eq_true rfl, Nat.le_of_ble_eq_true rfl⟩) (pV hS hAlo hlo hP hK (va_Dlo hD hAlo) hZ [17, 18, 19, 2, 3, 4, 5, 14, 15, 16] (by decide +kernel) rfl (ci := 1) (q := (RX1, TX1, 8)) (q0 := 0) rfl rfl) rfl rfl hl.1 rfl (lv_room (Nat.le_of_ble_eq_true rfl)) dX7_lost_24 ⟨Nat.le_of_ble_eq_true rfl, Nat.le_of_ble_eq_true rfl⟩) hS hA hP hD [17, 18, 19, 2, 3, 4, 5, 14, 15, 16] [0, 1, 6, 7, 8, 9, 10, 11, 12, 13, 20] rfl rfl (by decide +kernel) (by decide +kernel) (fun u H locs hw_2 hP hD hS => ?_)
    obtain ⟨pb__2, pco__2⟩ := u
    have hQ9 := pd_mk [((a 0), .inr (7, (fX7 (a 1) (a 3) (a 19) (a 35) (a 40) (nI rk) lfa (a 53) (a 56) (a 63) (a 64) (a 68)))), ((a 3), .inl (k 3, 3, .inr (.inr (.inr (.inr (a3 (a 4) (a 9) (a 14))))))), ((a 9), .inr (5, (fX5 (a 10) (a 11) (a 12) (a 13)))), (aI k (a 10) 10 (vv n1 see1 tm1 g1)), (aI k (a 12) 24 fp1), (aI k (a 13) 4 fl1), ((a 14), .inr (5, (fX5 (a 15) (a 16) (a 17) (a 18)))), (aI k (a 15) 10 (vv n2 see2 tm2 g2)), (aI k (a 17) 24 fp2), (aI k (a 18) 4 fl2), (aI k (a 71) 16 pg), ((a 68), .inr (1, (fX1 (a 53) (a 69) (a 70) (a 71) (nI n0) p1 0 0))), (aI k (a 69) 4 (nF pb__2)), (aI k (a 70) 100 pco__2), ((a 4), .inr (5, (fX5 (a 5) (a 6) (a 7) (a 8)))), (aI k (a 5) 10 (vv n0 see0 tm0 g0)), (aI k (a 7) 24 fp0), (aI k (a 8) 4 fl0), ((a 53), .inr (4, (fX4 (a 54) (a 55) (nI cc) (nI rz) ro sd))), (aI k (a 54) 4 wk), (aI k (a 55) 4 (nF br))] hP hD
    clear hP hD
    obtain ⟨hP, hD⟩ := hQ9
    try dsimp only at hw_2
    refine lv_aload_n hx hb dX7_lost_27 rfl (lv_at hl 1 rfl) ?_
    refine va_get (D := D) (ci := 7) (v := .ref (a 68)) (C := RX7) (T := TX7) (N := 12) hx hb hts inX7 hown hK hP 0 rfl rfl 11 (by decide) (hts _ tw_316) (fun _ h9 => h9) rfl dX7_lost_28 ?_
    refine ro_i (D := D) (va_runV (As := []) (rest := []) ⟨hx, hb, hml, hown, hts⟩ ((x_costOfAll l D k st lo (a 53) (a 68) (a 69) (a 70) (a 71) n0 p1 0 0 pb__2 pco__2 (a 54) (a 55) cc rz ro sd (by first | assumption | omega) (by first | assumption | omega) hw_2) H.size) (cwV 0 hts (gV tw_897 tw_898 tw_899 tw_84 tw_900) rfl rfl rfl (by decide +kernel) ⟨Nat.le_of_ble_eq_true rfl, Nat.le_of_ble_eq_true rfl⟩) (pV hS hAlo hlo hP hK (va_Dlo hD hAlo) hZ [11, 12, 13, 18] (by decide) rfl (ci := 1) (q := (RX1, TX1, 8)) (q0 := 0) rfl rfl) rfl rfl hl.1 rfl (lv_room (Nat.le_of_ble_eq_true rfl)) dX7_lost_31 ⟨Nat.le_of_ble_eq_true rfl, Nat.le_of_ble_eq_true rfl⟩) hS hA hP (fun r_3 H locs hw_3 hP hS => ?_)
    try dsimp only at hw_3
    refine lv_aload_n hx hb dX7_lost_34 rfl (lv_at hl 1 rfl) ?_
    refine va_get (D := D) (ci := 7) (v := .ref (a 68)) (C := RX7) (T := TX7) (N := 12) hx hb hts inX7 hown hK hP 0 rfl rfl 11 (by decide) (hts _ tw_316) (fun _ h9 => h9) rfl dX7_lost_35 ?_
    refine rw_i (D := D) (wr := [((a 0), .inr (7, (fX7 (a 1) (a 3) (a 19) (a 35) (a 40) (nI rk) lfa (a 53) (a 56) (a 63) (a 64) (a 68)))), ((a 3), .inl (k 3, 3, .inr (.inr (.inr (.inr (a3 (a 4) (a 9) (a 14))))))), ((a 9), .inr (5, (fX5 (a 10) (a 11) (a 12) (a 13)))), (aI k (a 10) 10 (vv n1 see1 tm1 g1)), (aI k (a 12) 24 fp1), (aI k (a 13) 4 fl1), ((a 14), .inr (5, (fX5 (a 15) (a 16) (a 17) (a 18)))), (aI k (a 15) 10 (vv n2 see2 tm2 g2)), (aI k (a 17) 24 fp2), (aI k (a 18) 4 fl2), (aI k (a 69) 4 (nF pb__2)), ((a 4), .inr (5, (fX5 (a 5) (a 6) (a 7) (a 8)))), (aI k (a 5) 10 (vv n0 see0 tm0 g0)), (aI k (a 7) 24 fp0), (aI k (a 8) 4 fl0), (aI k (a 54) 4 wk), (aI k (a 55) 4 (nF br))]) (va_runV (As := []) (rest := [.int r_3]) ⟨hx, hb, hml, hown, hts⟩ ((x_leastOfAll l D k st lo (a 53) (a 68) (a 69) (a 70) (a 71) n0 p1 0 0 pco__2 pg (a 54) (a 55) cc rz ro sd (by first | assumption | omega) (by first | assumption | omega)) H.size) (cwV 0 hts (gV tw_901 tw_902 tw_903 tw_84 tw_904) rfl rfl rfl (by decide +kernel) ⟨Nat.le_of_ble_eq_true rfl, Nat.le_of_ble_eq_true rfl⟩) (pV hS hAlo hlo hP hK (va_Dlo hD hAlo) hZ [11, 13, 10, 18] (by decide) rfl (ci := 1) (q := (RX1, TX1, 8)) (q0 := 0) rfl rfl) rfl rfl hl.1 rfl (lv_room (Nat.le_of_ble_eq_true rfl)) dX7_lost_38 ⟨Nat.le_of_ble_eq_true rfl, Nat.le_of_ble_eq_true rfl⟩) hS hA hP hD [11, 13, 10, 18] [0, 1, 2, 3, 4, 5, 6, 7, 8, 9, 12, 14, 15, 16, 17, 19, 20] rfl rfl (by decide +kernel) (by decide +kernel) (fun r_4 u H locs hw_4 hP hD hS => ?_)
    obtain ⟨pg__4, rfl⟩ : ∃ z, z = u := ⟨_, rfl⟩
    have hQ9 := pd_mk [((a 0), .inr (7, (fX7 (a 1) (a 3) (a 19) (a 35) (a 40) (nI rk) lfa (a 53) (a 56) (a 63) (a 64) (a 68)))), ((a 3), .inl (k 3, 3, .inr (.inr (.inr (.inr (a3 (a 4) (a 9) (a 14))))))), ((a 9), .inr (5, (fX5 (a 10) (a 11) (a 12) (a 13)))), (aI k (a 10) 10 (vv n1 see1 tm1 g1)), (aI k (a 12) 24 fp1), (aI k (a 13) 4 fl1), ((a 14), .inr (5, (fX5 (a 15) (a 16) (a 17) (a 18)))), (aI k (a 15) 10 (vv n2 see2 tm2 g2)), (aI k (a 17) 24 fp2), (aI k (a 18) 4 fl2), (aI k (a 69) 4 (nF pb__2)), ((a 4), .inr (5, (fX5 (a 5) (a 6) (a 7) (a 8)))), (aI k (a 5) 10 (vv n0 see0 tm0 g0)), (aI k (a 7) 24 fp0), (aI k (a 8) 4 fl0), (aI k (a 54) 4 wk), (aI k (a 55) 4 (nF br)), ((a 68), .inr (1, (fX1 (a 53) (a 69) (a 70) (a 71) (nI n0) p1 0 0))), (aI k (a 70) 100 pco__2), (aI k (a 71) 16 pg__4), ((a 53), .inr (4, (fX4 (a 54) (a 55) (nI cc) (nI rz) ro sd)))] hP hD
    clear hP hD
    obtain ⟨hP, hD⟩ := hQ9
    try dsimp only at hw_4
    refine lv_isub hx hb dX7_lost_41 ?_
    refine lv_topi (fun x_5 ex_5 => ?_)
    obtain ⟨hP9, hD9⟩ := pd_sub [((a 0), .inr (7, (fX7 (a 1) (a 3) (a 19) (a 35) (a 40) (nI rk) lfa (a 53) (a 56) (a 63) (a 64) (a 68)))), ((a 3), .inl (k 3, 3, .inr (.inr (.inr (.inr (a3 (a 4) (a 9) (a 14))))))), ((a 4), .inr (5, (fX5 (a 5) (a 6) (a 7) (a 8)))), (aI k (a 5) 10 (vv n0 see0 tm0 g0)), (aI k (a 7) 24 fp0), (aI k (a 8) 4 fl0), ((a 9), .inr (5, (fX5 (a 10) (a 11) (a 12) (a 13)))), (aI k (a 10) 10 (vv n1 see1 tm1 g1)), (aI k (a 12) 24 fp1), (aI k (a 13) 4 fl1), ((a 14), .inr (5, (fX5 (a 15) (a 16) (a 17) (a 18)))), (aI k (a 15) 10 (vv n2 see2 tm2 g2)), (aI k (a 17) 24 fp2), (aI k (a 18) 4 fl2), ((a 53), .inr (4, (fX4 (a 54) (a 55) (nI cc) (nI rz) ro sd))), (aI k (a 54) 4 wk), (aI k (a 55) 4 (nF br)), ((a 68), .inr (1, (fX1 (a 53) (a 69) (a 70) (a 71) (nI n0) p1 0 0))), (aI k (a 69) 4 (nF pb__2)), (aI k (a 70) 100 pco__2), (aI k (a 71) 16 pg__4)] [0, 1, 11, 12, 13, 14, 2, 3, 4, 5, 6, 7, 8, 9, 20, 15, 16, 17, 10, 18, 19] hP hD (by decide +kernel) rfl
    exact W.iret (v := x_5) hx hb hr (fun t ht hW => ⟨⟨x_5, ((nI n0), p1, 0, 0, pb__2, pco__2, pg__4), rfl, hw_2, by rw [ht]; exact hP9, hD9⟩, hS.F ht⟩) hS.2.2 dX7_lost_42
  · refine lv_istore_n (lv' := [(3, .int 0), (0, .ref (a 0)), (1, .int 1), (2, .int p1)]) hx hb dX7_lost_6 rfl hl (by decide) rfl (fun ls hl => ?_)
    refine lv_iload_n hx hb dX7_lost_7 rfl (lv_at hl 0 rfl) ?_
    refine lv_if_eq (tgt := 13) hx hb dX7_lost_8 (by decide) (fun _ => ?_) (fun h => absurd (by decide) h)
    refine lv_aload_n hx hb dX7_lost_13 rfl (lv_at hl 1 rfl) ?_
    refine va_get (D := D) (ci := 7) (v := .ref (a 68)) (C := RX7) (T := TX7) (N := 12) hx hb hts inX7 hown hK hP 0 rfl rfl 11 (by decide) (hts _ tw_316) (fun _ h9 => h9) rfl dX7_lost_14 ?_
    refine lv_aload_n hx hb dX7_lost_17 rfl (lv_at hl 1 rfl) ?_
    refine va_get (D := D) (ci := 7) (v := .ref (a 3)) (C := RX7) (T := TX7) (N := 12) hx hb hts inX7 hown hK hP 0 rfl rfl 1 (by decide) (hts _ tw_306) (fun _ h9 => h9) rfl dX7_lost_18 ?_
    refine lv_iload_n hx hb dX7_lost_21 rfl (lv_at hl 2 rfl) ?_
    refine va_aldq hx hb hK hP 1 3 rfl rfl (by unfold vp_in; decide) dX7_lost_22 ?_
    refine lv_tr (y := .ref (a 9)) rfl ?_
    refine lv_iload_n hx hb dX7_lost_23 rfl (lv_at hl 3 rfl) ?_
    refine rw_v (D := D) (wr := [((a 0), .inr (7, (fX7 (a 1) (a 3) (a 19) (a 35) (a 40) (nI rk) lfa (a 53) (a 56) (a 63) (a 64) (a 68)))), ((a 3), .inl (k 3, 3, .inr (.inr (.inr (.inr (a3 (a 4) (a 9) (a 14))))))), ((a 4), .inr (5, (fX5 (a 5) (a 6) (a 7) (a 8)))), (aI k (a 5) 10 (vv n0 see0 tm0 g0)), (aI k (a 7) 24 fp0), (aI k (a 8) 4 fl0), ((a 14), .inr (5, (fX5 (a 15) (a 16) (a 17) (a 18)))), (aI k (a 15) 10 (vv n2 see2 tm2 g2)), (aI k (a 17) 24 fp2), (aI k (a 18) 4 fl2), (aI k (a 71) 16 pg)]) (va_runV (As := [.ref (a 9), .int p1]) (rest := []) ⟨hx, hb, hml, hown, hts⟩ ((x_comeTo l D k st lo (a 53) (a 68) (a 69) (a 70) (a 71) pn pf pd pe pb pco (a 9) (a 10) (a 11) (a 12) (a 13) n1 see1 tm1 g1 fp1 fl1 (a 54) (a 55) cc rz ro sd wk br p1 (by first | assumption | omega) (by first | assumption | omega) hbr hpb) H.size) (cwV 2 hts (gV tw_821 tw_822 tw_823 tw_84 tw_824) rfl rfl rfl (by decide +kernel) ⟨Nat.le_of_ble_eq_true rfl, Nat.le_of_ble_eq_true rfl⟩) (pV hS hAlo hlo hP hK (va_Dlo hD hAlo) hZ [17, 18, 19, 6, 7, 8, 9, 14, 15, 16] (by decide +kernel) rfl (ci := 1) (q := (RX1, TX1, 8)) (q0 := 0) rfl rfl) rfl rfl hl.1 rfl (lv_room (Nat.le_of_ble_eq_true rfl)) dX7_lost_24 ⟨Nat.le_of_ble_eq_true rfl, Nat.le_of_ble_eq_true rfl⟩) hS hA hP hD [17, 18, 19, 6, 7, 8, 9, 14, 15, 16] [0, 1, 2, 3, 4, 5, 10, 11, 12, 13, 20] rfl rfl (by decide +kernel) (by decide +kernel) (fun u H locs hw_6 hP hD hS => ?_)
    obtain ⟨pb__6, pco__6⟩ := u
    have hQ9 := pd_mk [((a 0), .inr (7, (fX7 (a 1) (a 3) (a 19) (a 35) (a 40) (nI rk) lfa (a 53) (a 56) (a 63) (a 64) (a 68)))), ((a 3), .inl (k 3, 3, .inr (.inr (.inr (.inr (a3 (a 4) (a 9) (a 14))))))), ((a 4), .inr (5, (fX5 (a 5) (a 6) (a 7) (a 8)))), (aI k (a 5) 10 (vv n0 see0 tm0 g0)), (aI k (a 7) 24 fp0), (aI k (a 8) 4 fl0), ((a 14), .inr (5, (fX5 (a 15) (a 16) (a 17) (a 18)))), (aI k (a 15) 10 (vv n2 see2 tm2 g2)), (aI k (a 17) 24 fp2), (aI k (a 18) 4 fl2), (aI k (a 71) 16 pg), ((a 68), .inr (1, (fX1 (a 53) (a 69) (a 70) (a 71) (nI n1) p1 0 0))), (aI k (a 69) 4 (nF pb__6)), (aI k (a 70) 100 pco__6), ((a 9), .inr (5, (fX5 (a 10) (a 11) (a 12) (a 13)))), (aI k (a 10) 10 (vv n1 see1 tm1 g1)), (aI k (a 12) 24 fp1), (aI k (a 13) 4 fl1), ((a 53), .inr (4, (fX4 (a 54) (a 55) (nI cc) (nI rz) ro sd))), (aI k (a 54) 4 wk), (aI k (a 55) 4 (nF br))] hP hD
    clear hP hD
    obtain ⟨hP, hD⟩ := hQ9
    try dsimp only at hw_6
    refine lv_aload_n hx hb dX7_lost_27 rfl (lv_at hl 1 rfl) ?_
    refine va_get (D := D) (ci := 7) (v := .ref (a 68)) (C := RX7) (T := TX7) (N := 12) hx hb hts inX7 hown hK hP 0 rfl rfl 11 (by decide) (hts _ tw_316) (fun _ h9 => h9) rfl dX7_lost_28 ?_
    refine ro_i (D := D) (va_runV (As := []) (rest := []) ⟨hx, hb, hml, hown, hts⟩ ((x_costOfAll l D k st lo (a 53) (a 68) (a 69) (a 70) (a 71) n1 p1 0 0 pb__6 pco__6 (a 54) (a 55) cc rz ro sd (by first | assumption | omega) (by first | assumption | omega) hw_6) H.size) (cwV 0 hts (gV tw_897 tw_898 tw_899 tw_84 tw_900) rfl rfl rfl (by decide +kernel) ⟨Nat.le_of_ble_eq_true rfl, Nat.le_of_ble_eq_true rfl⟩) (pV hS hAlo hlo hP hK (va_Dlo hD hAlo) hZ [11, 12, 13, 18] (by decide) rfl (ci := 1) (q := (RX1, TX1, 8)) (q0 := 0) rfl rfl) rfl rfl hl.1 rfl (lv_room (Nat.le_of_ble_eq_true rfl)) dX7_lost_31 ⟨Nat.le_of_ble_eq_true rfl, Nat.le_of_ble_eq_true rfl⟩) hS hA hP (fun r_7 H locs hw_7 hP hS => ?_)
    try dsimp only at hw_7
    refine lv_aload_n hx hb dX7_lost_34 rfl (lv_at hl 1 rfl) ?_
    refine va_get (D := D) (ci := 7) (v := .ref (a 68)) (C := RX7) (T := TX7) (N := 12) hx hb hts inX7 hown hK hP 0 rfl rfl 11 (by decide) (hts _ tw_316) (fun _ h9 => h9) rfl dX7_lost_35 ?_
    refine rw_i (D := D) (wr := [((a 0), .inr (7, (fX7 (a 1) (a 3) (a 19) (a 35) (a 40) (nI rk) lfa (a 53) (a 56) (a 63) (a 64) (a 68)))), ((a 3), .inl (k 3, 3, .inr (.inr (.inr (.inr (a3 (a 4) (a 9) (a 14))))))), ((a 4), .inr (5, (fX5 (a 5) (a 6) (a 7) (a 8)))), (aI k (a 5) 10 (vv n0 see0 tm0 g0)), (aI k (a 7) 24 fp0), (aI k (a 8) 4 fl0), ((a 14), .inr (5, (fX5 (a 15) (a 16) (a 17) (a 18)))), (aI k (a 15) 10 (vv n2 see2 tm2 g2)), (aI k (a 17) 24 fp2), (aI k (a 18) 4 fl2), (aI k (a 69) 4 (nF pb__6)), ((a 9), .inr (5, (fX5 (a 10) (a 11) (a 12) (a 13)))), (aI k (a 10) 10 (vv n1 see1 tm1 g1)), (aI k (a 12) 24 fp1), (aI k (a 13) 4 fl1), (aI k (a 54) 4 wk), (aI k (a 55) 4 (nF br))]) (va_runV (As := []) (rest := [.int r_7]) ⟨hx, hb, hml, hown, hts⟩ ((x_leastOfAll l D k st lo (a 53) (a 68) (a 69) (a 70) (a 71) n1 p1 0 0 pco__6 pg (a 54) (a 55) cc rz ro sd (by first | assumption | omega) (by first | assumption | omega)) H.size) (cwV 0 hts (gV tw_901 tw_902 tw_903 tw_84 tw_904) rfl rfl rfl (by decide +kernel) ⟨Nat.le_of_ble_eq_true rfl, Nat.le_of_ble_eq_true rfl⟩) (pV hS hAlo hlo hP hK (va_Dlo hD hAlo) hZ [11, 13, 10, 18] (by decide) rfl (ci := 1) (q := (RX1, TX1, 8)) (q0 := 0) rfl rfl) rfl rfl hl.1 rfl (lv_room (Nat.le_of_ble_eq_true rfl)) dX7_lost_38 ⟨Nat.le_of_ble_eq_true rfl, Nat.le_of_ble_eq_true rfl⟩) hS hA hP hD [11, 13, 10, 18] [0, 1, 2, 3, 4, 5, 6, 7, 8, 9, 12, 14, 15, 16, 17, 19, 20] rfl rfl (by decide +kernel) (by decide +kernel) (fun r_8 u H locs hw_8 hP hD hS => ?_)
    obtain ⟨pg__8, rfl⟩ : ∃ z, z = u := ⟨_, rfl⟩
    have hQ9 := pd_mk [((a 0), .inr (7, (fX7 (a 1) (a 3) (a 19) (a 35) (a 40) (nI rk) lfa (a 53) (a 56) (a 63) (a 64) (a 68)))), ((a 3), .inl (k 3, 3, .inr (.inr (.inr (.inr (a3 (a 4) (a 9) (a 14))))))), ((a 4), .inr (5, (fX5 (a 5) (a 6) (a 7) (a 8)))), (aI k (a 5) 10 (vv n0 see0 tm0 g0)), (aI k (a 7) 24 fp0), (aI k (a 8) 4 fl0), ((a 14), .inr (5, (fX5 (a 15) (a 16) (a 17) (a 18)))), (aI k (a 15) 10 (vv n2 see2 tm2 g2)), (aI k (a 17) 24 fp2), (aI k (a 18) 4 fl2), (aI k (a 69) 4 (nF pb__6)), ((a 9), .inr (5, (fX5 (a 10) (a 11) (a 12) (a 13)))), (aI k (a 10) 10 (vv n1 see1 tm1 g1)), (aI k (a 12) 24 fp1), (aI k (a 13) 4 fl1), (aI k (a 54) 4 wk), (aI k (a 55) 4 (nF br)), ((a 68), .inr (1, (fX1 (a 53) (a 69) (a 70) (a 71) (nI n1) p1 0 0))), (aI k (a 70) 100 pco__6), (aI k (a 71) 16 pg__8), ((a 53), .inr (4, (fX4 (a 54) (a 55) (nI cc) (nI rz) ro sd)))] hP hD
    clear hP hD
    obtain ⟨hP, hD⟩ := hQ9
    try dsimp only at hw_8
    refine lv_isub hx hb dX7_lost_41 ?_
    refine lv_topi (fun x_9 ex_9 => ?_)
    obtain ⟨hP9, hD9⟩ := pd_sub [((a 0), .inr (7, (fX7 (a 1) (a 3) (a 19) (a 35) (a 40) (nI rk) lfa (a 53) (a 56) (a 63) (a 64) (a 68)))), ((a 3), .inl (k 3, 3, .inr (.inr (.inr (.inr (a3 (a 4) (a 9) (a 14))))))), ((a 4), .inr (5, (fX5 (a 5) (a 6) (a 7) (a 8)))), (aI k (a 5) 10 (vv n0 see0 tm0 g0)), (aI k (a 7) 24 fp0), (aI k (a 8) 4 fl0), ((a 9), .inr (5, (fX5 (a 10) (a 11) (a 12) (a 13)))), (aI k (a 10) 10 (vv n1 see1 tm1 g1)), (aI k (a 12) 24 fp1), (aI k (a 13) 4 fl1), ((a 14), .inr (5, (fX5 (a 15) (a 16) (a 17) (a 18)))), (aI k (a 15) 10 (vv n2 see2 tm2 g2)), (aI k (a 17) 24 fp2), (aI k (a 18) 4 fl2), ((a 53), .inr (4, (fX4 (a 54) (a 55) (nI cc) (nI rz) ro sd))), (aI k (a 54) 4 wk), (aI k (a 55) 4 (nF br)), ((a 68), .inr (1, (fX1 (a 53) (a 69) (a 70) (a 71) (nI n1) p1 0 0))), (aI k (a 69) 4 (nF pb__6)), (aI k (a 70) 100 pco__6), (aI k (a 71) 16 pg__8)] [0, 1, 2, 3, 4, 5, 11, 12, 13, 14, 6, 7, 8, 9, 20, 15, 16, 17, 10, 18, 19] hP hD (by decide +kernel) rfl
    exact W.iret (v := x_9) hx hb hr (fun t ht hW => ⟨⟨x_9, ((nI n1), p1, 0, 0, pb__6, pco__6, pg__8), rfl, hw_6, by rw [ht]; exact hP9, hD9⟩, hS.F ht⟩) hS.2.2 dX7_lost_42
  · refine lv_istore_n (lv' := [(3, .int 0), (0, .ref (a 0)), (1, .int 2), (2, .int p1)]) hx hb dX7_lost_6 rfl hl (by decide) rfl (fun ls hl => ?_)
    refine lv_iload_n hx hb dX7_lost_7 rfl (lv_at hl 0 rfl) ?_
    refine lv_if_eq (tgt := 13) hx hb dX7_lost_8 (by decide) (fun _ => ?_) (fun h => absurd (by decide) h)
    refine lv_aload_n hx hb dX7_lost_13 rfl (lv_at hl 1 rfl) ?_
    refine va_get (D := D) (ci := 7) (v := .ref (a 68)) (C := RX7) (T := TX7) (N := 12) hx hb hts inX7 hown hK hP 0 rfl rfl 11 (by decide) (hts _ tw_316) (fun _ h9 => h9) rfl dX7_lost_14 ?_
    refine lv_aload_n hx hb dX7_lost_17 rfl (lv_at hl 1 rfl) ?_
    refine va_get (D := D) (ci := 7) (v := .ref (a 3)) (C := RX7) (T := TX7) (N := 12) hx hb hts inX7 hown hK hP 0 rfl rfl 1 (by decide) (hts _ tw_306) (fun _ h9 => h9) rfl dX7_lost_18 ?_
    refine lv_iload_n hx hb dX7_lost_21 rfl (lv_at hl 2 rfl) ?_
    refine va_aldq hx hb hK hP 1 3 rfl rfl (by unfold vp_in; decide) dX7_lost_22 ?_
    refine lv_tr (y := .ref (a 14)) rfl ?_
    refine lv_iload_n hx hb dX7_lost_23 rfl (lv_at hl 3 rfl) ?_
    refine rw_v (D := D) (wr := [((a 0), .inr (7, (fX7 (a 1) (a 3) (a 19) (a 35) (a 40) (nI rk) lfa (a 53) (a 56) (a 63) (a 64) (a 68)))), ((a 3), .inl (k 3, 3, .inr (.inr (.inr (.inr (a3 (a 4) (a 9) (a 14))))))), ((a 4), .inr (5, (fX5 (a 5) (a 6) (a 7) (a 8)))), (aI k (a 5) 10 (vv n0 see0 tm0 g0)), (aI k (a 7) 24 fp0), (aI k (a 8) 4 fl0), ((a 9), .inr (5, (fX5 (a 10) (a 11) (a 12) (a 13)))), (aI k (a 10) 10 (vv n1 see1 tm1 g1)), (aI k (a 12) 24 fp1), (aI k (a 13) 4 fl1), (aI k (a 71) 16 pg)]) (va_runV (As := [.ref (a 14), .int p1]) (rest := []) ⟨hx, hb, hml, hown, hts⟩ ((x_comeTo l D k st lo (a 53) (a 68) (a 69) (a 70) (a 71) pn pf pd pe pb pco (a 14) (a 15) (a 16) (a 17) (a 18) n2 see2 tm2 g2 fp2 fl2 (a 54) (a 55) cc rz ro sd wk br p1 (by first | assumption | omega) (by first | assumption | omega) hbr hpb) H.size) (cwV 2 hts (gV tw_821 tw_822 tw_823 tw_84 tw_824) rfl rfl rfl (by decide +kernel) ⟨Nat.le_of_ble_eq_true rfl, Nat.le_of_ble_eq_true rfl⟩) (pV hS hAlo hlo hP hK (va_Dlo hD hAlo) hZ [17, 18, 19, 10, 11, 12, 13, 14, 15, 16] (by decide +kernel) rfl (ci := 1) (q := (RX1, TX1, 8)) (q0 := 0) rfl rfl) rfl rfl hl.1 rfl (lv_room (Nat.le_of_ble_eq_true rfl)) dX7_lost_24 ⟨Nat.le_of_ble_eq_true rfl, Nat.le_of_ble_eq_true rfl⟩) hS hA hP hD [17, 18, 19, 10, 11, 12, 13, 14, 15, 16] [0, 1, 2, 3, 4, 5, 6, 7, 8, 9, 20] rfl rfl (by decide +kernel) (by decide +kernel) (fun u H locs hw_10 hP hD hS => ?_)
    obtain ⟨pb__10, pco__10⟩ := u
    have hQ9 := pd_mk [((a 0), .inr (7, (fX7 (a 1) (a 3) (a 19) (a 35) (a 40) (nI rk) lfa (a 53) (a 56) (a 63) (a 64) (a 68)))), ((a 3), .inl (k 3, 3, .inr (.inr (.inr (.inr (a3 (a 4) (a 9) (a 14))))))), ((a 4), .inr (5, (fX5 (a 5) (a 6) (a 7) (a 8)))), (aI k (a 5) 10 (vv n0 see0 tm0 g0)), (aI k (a 7) 24 fp0), (aI k (a 8) 4 fl0), ((a 9), .inr (5, (fX5 (a 10) (a 11) (a 12) (a 13)))), (aI k (a 10) 10 (vv n1 see1 tm1 g1)), (aI k (a 12) 24 fp1), (aI k (a 13) 4 fl1), (aI k (a 71) 16 pg), ((a 68), .inr (1, (fX1 (a 53) (a 69) (a 70) (a 71) (nI n2) p1 0 0))), (aI k (a 69) 4 (nF pb__10)), (aI k (a 70) 100 pco__10), ((a 14), .inr (5, (fX5 (a 15) (a 16) (a 17) (a 18)))), (aI k (a 15) 10 (vv n2 see2 tm2 g2)), (aI k (a 17) 24 fp2), (aI k (a 18) 4 fl2), ((a 53), .inr (4, (fX4 (a 54) (a 55) (nI cc) (nI rz) ro sd))), (aI k (a 54) 4 wk), (aI k (a 55) 4 (nF br))] hP hD
    clear hP hD
    obtain ⟨hP, hD⟩ := hQ9
    try dsimp only at hw_10
    refine lv_aload_n hx hb dX7_lost_27 rfl (lv_at hl 1 rfl) ?_
    refine va_get (D := D) (ci := 7) (v := .ref (a 68)) (C := RX7) (T := TX7) (N := 12) hx hb hts inX7 hown hK hP 0 rfl rfl 11 (by decide) (hts _ tw_316) (fun _ h9 => h9) rfl dX7_lost_28 ?_
    refine ro_i (D := D) (va_runV (As := []) (rest := []) ⟨hx, hb, hml, hown, hts⟩ ((x_costOfAll l D k st lo (a 53) (a 68) (a 69) (a 70) (a 71) n2 p1 0 0 pb__10 pco__10 (a 54) (a 55) cc rz ro sd (by first | assumption | omega) (by first | assumption | omega) hw_10) H.size) (cwV 0 hts (gV tw_897 tw_898 tw_899 tw_84 tw_900) rfl rfl rfl (by decide +kernel) ⟨Nat.le_of_ble_eq_true rfl, Nat.le_of_ble_eq_true rfl⟩) (pV hS hAlo hlo hP hK (va_Dlo hD hAlo) hZ [11, 12, 13, 18] (by decide) rfl (ci := 1) (q := (RX1, TX1, 8)) (q0 := 0) rfl rfl) rfl rfl hl.1 rfl (lv_room (Nat.le_of_ble_eq_true rfl)) dX7_lost_31 ⟨Nat.le_of_ble_eq_true rfl, Nat.le_of_ble_eq_true rfl⟩) hS hA hP (fun r_11 H locs hw_11 hP hS => ?_)
    try dsimp only at hw_11
    refine lv_aload_n hx hb dX7_lost_34 rfl (lv_at hl 1 rfl) ?_
    refine va_get (D := D) (ci := 7) (v := .ref (a 68)) (C := RX7) (T := TX7) (N := 12) hx hb hts inX7 hown hK hP 0 rfl rfl 11 (by decide) (hts _ tw_316) (fun _ h9 => h9) rfl dX7_lost_35 ?_
    refine rw_i (D := D) (wr := [((a 0), .inr (7, (fX7 (a 1) (a 3) (a 19) (a 35) (a 40) (nI rk) lfa (a 53) (a 56) (a 63) (a 64) (a 68)))), ((a 3), .inl (k 3, 3, .inr (.inr (.inr (.inr (a3 (a 4) (a 9) (a 14))))))), ((a 4), .inr (5, (fX5 (a 5) (a 6) (a 7) (a 8)))), (aI k (a 5) 10 (vv n0 see0 tm0 g0)), (aI k (a 7) 24 fp0), (aI k (a 8) 4 fl0), ((a 9), .inr (5, (fX5 (a 10) (a 11) (a 12) (a 13)))), (aI k (a 10) 10 (vv n1 see1 tm1 g1)), (aI k (a 12) 24 fp1), (aI k (a 13) 4 fl1), (aI k (a 69) 4 (nF pb__10)), ((a 14), .inr (5, (fX5 (a 15) (a 16) (a 17) (a 18)))), (aI k (a 15) 10 (vv n2 see2 tm2 g2)), (aI k (a 17) 24 fp2), (aI k (a 18) 4 fl2), (aI k (a 54) 4 wk), (aI k (a 55) 4 (nF br))]) (va_runV (As := []) (rest := [.int r_11]) ⟨hx, hb, hml, hown, hts⟩ ((x_leastOfAll l D k st lo (a 53) (a 68) (a 69) (a 70) (a 71) n2 p1 0 0 pco__10 pg (a 54) (a 55) cc rz ro sd (by first | assumption | omega) (by first | assumption | omega)) H.size) (cwV 0 hts (gV tw_901 tw_902 tw_903 tw_84 tw_904) rfl rfl rfl (by decide +kernel) ⟨Nat.le_of_ble_eq_true rfl, Nat.le_of_ble_eq_true rfl⟩) (pV hS hAlo hlo hP hK (va_Dlo hD hAlo) hZ [11, 13, 10, 18] (by decide) rfl (ci := 1) (q := (RX1, TX1, 8)) (q0 := 0) rfl rfl) rfl rfl hl.1 rfl (lv_room (Nat.le_of_ble_eq_true rfl)) dX7_lost_38 ⟨Nat.le_of_ble_eq_true rfl, Nat.le_of_ble_eq_true rfl⟩) hS hA hP hD [11, 13, 10, 18] [0, 1, 2, 3, 4, 5, 6, 7, 8, 9, 12, 14, 15, 16, 17, 19, 20] rfl rfl (by decide +kernel) (by decide +kernel) (fun r_12 u H locs hw_12 hP hD hS => ?_)
    obtain ⟨pg__12, rfl⟩ : ∃ z, z = u := ⟨_, rfl⟩
    have hQ9 := pd_mk [((a 0), .inr (7, (fX7 (a 1) (a 3) (a 19) (a 35) (a 40) (nI rk) lfa (a 53) (a 56) (a 63) (a 64) (a 68)))), ((a 3), .inl (k 3, 3, .inr (.inr (.inr (.inr (a3 (a 4) (a 9) (a 14))))))), ((a 4), .inr (5, (fX5 (a 5) (a 6) (a 7) (a 8)))), (aI k (a 5) 10 (vv n0 see0 tm0 g0)), (aI k (a 7) 24 fp0), (aI k (a 8) 4 fl0), ((a 9), .inr (5, (fX5 (a 10) (a 11) (a 12) (a 13)))), (aI k (a 10) 10 (vv n1 see1 tm1 g1)), (aI k (a 12) 24 fp1), (aI k (a 13) 4 fl1), (aI k (a 69) 4 (nF pb__10)), ((a 14), .inr (5, (fX5 (a 15) (a 16) (a 17) (a 18)))), (aI k (a 15) 10 (vv n2 see2 tm2 g2)), (aI k (a 17) 24 fp2), (aI k (a 18) 4 fl2), (aI k (a 54) 4 wk), (aI k (a 55) 4 (nF br)), ((a 68), .inr (1, (fX1 (a 53) (a 69) (a 70) (a 71) (nI n2) p1 0 0))), (aI k (a 70) 100 pco__10), (aI k (a 71) 16 pg__12), ((a 53), .inr (4, (fX4 (a 54) (a 55) (nI cc) (nI rz) ro sd)))] hP hD
    clear hP hD
    obtain ⟨hP, hD⟩ := hQ9
    try dsimp only at hw_12
    refine lv_isub hx hb dX7_lost_41 ?_
    refine lv_topi (fun x_13 ex_13 => ?_)
    obtain ⟨hP9, hD9⟩ := pd_sub [((a 0), .inr (7, (fX7 (a 1) (a 3) (a 19) (a 35) (a 40) (nI rk) lfa (a 53) (a 56) (a 63) (a 64) (a 68)))), ((a 3), .inl (k 3, 3, .inr (.inr (.inr (.inr (a3 (a 4) (a 9) (a 14))))))), ((a 4), .inr (5, (fX5 (a 5) (a 6) (a 7) (a 8)))), (aI k (a 5) 10 (vv n0 see0 tm0 g0)), (aI k (a 7) 24 fp0), (aI k (a 8) 4 fl0), ((a 9), .inr (5, (fX5 (a 10) (a 11) (a 12) (a 13)))), (aI k (a 10) 10 (vv n1 see1 tm1 g1)), (aI k (a 12) 24 fp1), (aI k (a 13) 4 fl1), ((a 14), .inr (5, (fX5 (a 15) (a 16) (a 17) (a 18)))), (aI k (a 15) 10 (vv n2 see2 tm2 g2)), (aI k (a 17) 24 fp2), (aI k (a 18) 4 fl2), ((a 53), .inr (4, (fX4 (a 54) (a 55) (nI cc) (nI rz) ro sd))), (aI k (a 54) 4 wk), (aI k (a 55) 4 (nF br)), ((a 68), .inr (1, (fX1 (a 53) (a 69) (a 70) (a 71) (nI n2) p1 0 0))), (aI k (a 69) 4 (nF pb__10)), (aI k (a 70) 100 pco__10), (aI k (a 71) 16 pg__12)] [0, 1, 2, 3, 4, 5, 6, 7, 8, 9, 11, 12, 13, 14, 20, 15, 16, 17, 10, 18, 19] hP hD (by decide +kernel) rfl
    exact W.iret (v := x_13) hx hb hr (fun t ht hW => ⟨⟨x_13, ((nI n2), p1, 0, 0, pb__10, pco__10, pg__12), rfl, hw_10, by rw [ht]; exact hP9, hD9⟩, hS.F ht⟩) hS.2.2 dX7_lost_42
  · refine lv_istore_n (lv' := [(3, .int (-1001)), (0, .ref (a 0)), (1, .int p0), (2, .int p1)]) hx hb dX7_lost_6 rfl hl (by decide) rfl (fun ls hl => ?_)
    refine lv_iload_n hx hb dX7_lost_7 rfl (lv_at hl 0 rfl) ?_
    refine lv_if_eq (tgt := 13) hx hb dX7_lost_8 (by decide) (fun h => absurd h (by decide)) (fun _ => ?_)
    refine lv_iload_n hx hb dX7_lost_11 rfl (lv_at hl 0 rfl) ?_
    obtain ⟨hP9, hD9⟩ := pd_sub [((a 0), .inr (7, (fX7 (a 1) (a 3) (a 19) (a 35) (a 40) (nI rk) lfa (a 53) (a 56) (a 63) (a 64) (a 68)))), ((a 3), .inl (k 3, 3, .inr (.inr (.inr (.inr (a3 (a 4) (a 9) (a 14))))))), ((a 4), .inr (5, (fX5 (a 5) (a 6) (a 7) (a 8)))), (aI k (a 5) 10 (vv n0 see0 tm0 g0)), (aI k (a 7) 24 fp0), (aI k (a 8) 4 fl0), ((a 9), .inr (5, (fX5 (a 10) (a 11) (a 12) (a 13)))), (aI k (a 10) 10 (vv n1 see1 tm1 g1)), (aI k (a 12) 24 fp1), (aI k (a 13) 4 fl1), ((a 14), .inr (5, (fX5 (a 15) (a 16) (a 17) (a 18)))), (aI k (a 15) 10 (vv n2 see2 tm2 g2)), (aI k (a 17) 24 fp2), (aI k (a 18) 4 fl2), ((a 53), .inr (4, (fX4 (a 54) (a 55) (nI cc) (nI rz) ro sd))), (aI k (a 54) 4 wk), (aI k (a 55) 4 (nF br)), ((a 68), .inr (1, (fX1 (a 53) (a 69) (a 70) (a 71) pn pf pd pe))), (aI k (a 69) 4 (nF pb)), (aI k (a 70) 100 pco), (aI k (a 71) 16 pg)] [0, 1, 2, 3, 4, 5, 6, 7, 8, 9, 10, 11, 12, 13, 14, 15, 16, 17, 18, 19, 20] hP hD (by decide +kernel) rfl
    exact W.iret (v := (-1001)) hx hb hr (fun t ht hW => ⟨⟨(-1001), (pn, pf, pd, pe, pb, pco, pg), rfl, hpb, by rw [ht]; exact hP9, hD9⟩, hS.F ht⟩) hS.2.2 dX7_lost_12
  · refine lv_istore_n (lv' := [(3, .int (-1002)), (0, .ref (a 0)), (1, .int p0), (2, .int p1)]) hx hb dX7_lost_6 rfl hl (by decide) rfl (fun ls hl => ?_)
    refine lv_iload_n hx hb dX7_lost_7 rfl (lv_at hl 0 rfl) ?_
    refine lv_if_eq (tgt := 13) hx hb dX7_lost_8 (by decide) (fun h => absurd h (by decide)) (fun _ => ?_)
    refine lv_iload_n hx hb dX7_lost_11 rfl (lv_at hl 0 rfl) ?_
    obtain ⟨hP9, hD9⟩ := pd_sub [((a 0), .inr (7, (fX7 (a 1) (a 3) (a 19) (a 35) (a 40) (nI rk) lfa (a 53) (a 56) (a 63) (a 64) (a 68)))), ((a 3), .inl (k 3, 3, .inr (.inr (.inr (.inr (a3 (a 4) (a 9) (a 14))))))), ((a 4), .inr (5, (fX5 (a 5) (a 6) (a 7) (a 8)))), (aI k (a 5) 10 (vv n0 see0 tm0 g0)), (aI k (a 7) 24 fp0), (aI k (a 8) 4 fl0), ((a 9), .inr (5, (fX5 (a 10) (a 11) (a 12) (a 13)))), (aI k (a 10) 10 (vv n1 see1 tm1 g1)), (aI k (a 12) 24 fp1), (aI k (a 13) 4 fl1), ((a 14), .inr (5, (fX5 (a 15) (a 16) (a 17) (a 18)))), (aI k (a 15) 10 (vv n2 see2 tm2 g2)), (aI k (a 17) 24 fp2), (aI k (a 18) 4 fl2), ((a 53), .inr (4, (fX4 (a 54) (a 55) (nI cc) (nI rz) ro sd))), (aI k (a 54) 4 wk), (aI k (a 55) 4 (nF br)), ((a 68), .inr (1, (fX1 (a 53) (a 69) (a 70) (a 71) pn pf pd pe))), (aI k (a 69) 4 (nF pb)), (aI k (a 70) 100 pco), (aI k (a 71) 16 pg)] [0, 1, 2, 3, 4, 5, 6, 7, 8, 9, 10, 11, 12, 13, 14, 15, 16, 17, 18, 19, 20] hP hD (by decide +kernel) rfl
    exact W.iret (v := (-1002)) hx hb hr (fun t ht hW => ⟨⟨(-1002), (pn, pf, pd, pe, pb, pco, pg), rfl, hpb, by rw [ht]; exact hP9, hD9⟩, hS.F ht⟩) hS.2.2 dX7_lost_12

theorem f_x_mend_rows : True := trivial
theorem dX7_mend_0 : decode cX7_mend 0 = .ok (.aload_n 0, 1) := by decide +kernel
theorem dX7_mend_1 : decode cX7_mend 1 = .ok (.iload_n 1, 1) := by decide +kernel
theorem dX7_mend_2 : decode cX7_mend 2 = .ok (.iload_n 3, 1) := by decide +kernel
theorem dX7_mend_3 : decode cX7_mend 3 = .ok (.invokevirtual 120, 3) := by decide +kernel
theorem dX7_mend_6 : decode cX7_mend 6 = .ok (.ifCond .ne 7, 3) := by decide +kernel
theorem dX7_mend_9 : decode cX7_mend 9 = .ok (.sipush (-1001), 3) := by decide +kernel
theorem dX7_mend_12 : decode cX7_mend 12 = .ok (.ireturn, 1) := by decide +kernel
theorem dX7_mend_13 : decode cX7_mend 13 = .ok (.aload_n 0, 1) := by decide +kernel
theorem dX7_mend_14 : decode cX7_mend 14 = .ok (.iload_n 1, 1) := by decide +kernel
theorem dX7_mend_15 : decode cX7_mend 15 = .ok (.iload_n 2, 1) := by decide +kernel
theorem dX7_mend_16 : decode cX7_mend 16 = .ok (.invokevirtual 226, 3) := by decide +kernel
theorem dX7_mend_19 : decode cX7_mend 19 = .ok (.ifCond .ne 7, 3) := by decide +kernel
theorem dX7_mend_22 : decode cX7_mend 22 = .ok (.sipush (-1002), 3) := by decide +kernel
theorem dX7_mend_25 : decode cX7_mend 25 = .ok (.ireturn, 1) := by decide +kernel
theorem dX7_mend_26 : decode cX7_mend 26 = .ok (.aload_n 0, 1) := by decide +kernel
theorem dX7_mend_27 : decode cX7_mend 27 = .ok (.getfield 73, 3) := by decide +kernel
theorem dX7_mend_30 : decode cX7_mend 30 = .ok (.aload_n 0, 1) := by decide +kernel
theorem dX7_mend_31 : decode cX7_mend 31 = .ok (.getfield 18, 3) := by decide +kernel
theorem dX7_mend_34 : decode cX7_mend 34 = .ok (.iload_n 1, 1) := by decide +kernel
theorem dX7_mend_35 : decode cX7_mend 35 = .ok (.aaload, 1) := by decide +kernel
theorem dX7_mend_36 : decode cX7_mend 36 = .ok (.iload_n 2, 1) := by decide +kernel
theorem dX7_mend_37 : decode cX7_mend 37 = .ok (.invokevirtual 229, 3) := by decide +kernel
theorem dX7_mend_40 : decode cX7_mend 40 = .ok (.aload_n 0, 1) := by decide +kernel
theorem dX7_mend_41 : decode cX7_mend 41 = .ok (.getfield 73, 3) := by decide +kernel
theorem dX7_mend_44 : decode cX7_mend 44 = .ok (.iload_n 3, 1) := by decide +kernel
theorem dX7_mend_45 : decode cX7_mend 45 = .ok (.invokevirtual 263, 3) := by decide +kernel
theorem dX7_mend_48 : decode cX7_mend 48 = .ok (.ireturn, 1) := by decide +kernel
theorem f_x_seed_rows : True := trivial
theorem dX7_seed_0 : decode cX7_seed 0 = .ok (.iload_n 1, 1) := by decide +kernel
theorem dX7_seed_1 : decode cX7_seed 1 = .ok (.ifCond .ge 7, 3) := by decide +kernel
theorem dX7_seed_4 : decode cX7_seed 4 = .ok (.sipush (-1002), 3) := by decide +kernel
theorem dX7_seed_7 : decode cX7_seed 7 = .ok (.ireturn, 1) := by decide +kernel
theorem dX7_seed_8 : decode cX7_seed 8 = .ok (.aload_n 0, 1) := by decide +kernel
theorem dX7_seed_9 : decode cX7_seed 9 = .ok (.getfield 49, 3) := by decide +kernel
theorem dX7_seed_12 : decode cX7_seed 12 = .ok (.getfield 266, 3) := by decide +kernel
theorem dX7_seed_15 : decode cX7_seed 15 = .ok (.istore_n 2, 1) := by decide +kernel
theorem dX7_seed_16 : decode cX7_seed 16 = .ok (.aload_n 0, 1) := by decide +kernel
theorem dX7_seed_17 : decode cX7_seed 17 = .ok (.getfield 49, 3) := by decide +kernel
theorem dX7_seed_20 : decode cX7_seed 20 = .ok (.iload_n 1, 1) := by decide +kernel
theorem dX7_seed_21 : decode cX7_seed 21 = .ok (.putfield 266, 3) := by decide +kernel
theorem dX7_seed_24 : decode cX7_seed 24 = .ok (.iload_n 2, 1) := by decide +kernel
theorem dX7_seed_25 : decode cX7_seed 25 = .ok (.ireturn, 1) := by decide +kernel
theorem f_x_evening_rows : True := trivial
theorem dX7_evening_0 : decode cX7_evening 0 = .ok (.aload_n 0, 1) := by decide +kernel
theorem dX7_evening_1 : decode cX7_evening 1 = .ok (.iload_n 1, 1) := by decide +kernel
theorem dX7_evening_2 : decode cX7_evening 2 = .ok (.invokevirtual 108, 3) := by decide +kernel
theorem dX7_evening_5 : decode cX7_evening 5 = .ok (.ifCond .eq 11, 3) := by decide +kernel
theorem dX7_evening_8 : decode cX7_evening 8 = .ok (.aload_n 0, 1) := by decide +kernel
theorem dX7_evening_9 : decode cX7_evening 9 = .ok (.iload_n 2, 1) := by decide +kernel
theorem dX7_evening_10 : decode cX7_evening 10 = .ok (.invokevirtual 169, 3) := by decide +kernel
theorem dX7_evening_13 : decode cX7_evening 13 = .ok (.ifCond .ne 7, 3) := by decide +kernel
theorem dX7_evening_16 : decode cX7_evening 16 = .ok (.sipush (-1001), 3) := by decide +kernel
theorem dX7_evening_19 : decode cX7_evening 19 = .ok (.ireturn, 1) := by decide +kernel
theorem dX7_evening_20 : decode cX7_evening 20 = .ok (.iload_n 3, 1) := by decide +kernel
theorem dX7_evening_21 : decode cX7_evening 21 = .ok (.iconst 1, 1) := by decide +kernel
theorem dX7_evening_22 : decode cX7_evening 22 = .ok (.bipush 50, 2) := by decide +kernel
theorem dX7_evening_24 : decode cX7_evening 24 = .ok (.invokestatic 112, 3) := by decide +kernel
theorem dX7_evening_27 : decode cX7_evening 27 = .ok (.ifCond .ne 7, 3) := by decide +kernel
theorem dX7_evening_30 : decode cX7_evening 30 = .ok (.sipush (-1002), 3) := by decide +kernel
theorem dX7_evening_33 : decode cX7_evening 33 = .ok (.ireturn, 1) := by decide +kernel
theorem dX7_evening_34 : decode cX7_evening 34 = .ok (.lconst 0, 1) := by decide +kernel
theorem dX7_evening_35 : decode cX7_evening 35 = .ok (.lstore 4, 2) := by decide +kernel
theorem dX7_evening_37 : decode cX7_evening 37 = .ok (.iconst 0, 1) := by decide +kernel
theorem dX7_evening_38 : decode cX7_evening 38 = .ok (.istore 6, 2) := by decide +kernel
theorem dX7_evening_40 : decode cX7_evening 40 = .ok (.iload 6, 2) := by decide +kernel
theorem dX7_evening_42 : decode cX7_evening 42 = .ok (.iload_n 3, 1) := by decide +kernel
theorem dX7_evening_43 : decode cX7_evening 43 = .ok (.if_icmp .ge 38, 3) := by decide +kernel
theorem dX7_evening_46 : decode cX7_evening 46 = .ok (.lload 4, 2) := by decide +kernel
theorem dX7_evening_48 : decode cX7_evening 48 = .ok (.aload_n 0, 1) := by decide +kernel
theorem dX7_evening_49 : decode cX7_evening 49 = .ok (.getfield 64, 3) := by decide +kernel
theorem dX7_evening_52 : decode cX7_evening 52 = .ok (.aload_n 0, 1) := by decide +kernel
theorem dX7_evening_53 : decode cX7_evening 53 = .ok (.getfield 18, 3) := by decide +kernel
theorem dX7_evening_56 : decode cX7_evening 56 = .ok (.iload_n 1, 1) := by decide +kernel
theorem dX7_evening_57 : decode cX7_evening 57 = .ok (.aaload, 1) := by decide +kernel
theorem dX7_evening_58 : decode cX7_evening 58 = .ok (.aload_n 0, 1) := by decide +kernel
theorem dX7_evening_59 : decode cX7_evening 59 = .ok (.getfield 35, 3) := by decide +kernel
theorem dX7_evening_62 : decode cX7_evening 62 = .ok (.iload_n 2, 1) := by decide +kernel
theorem dX7_evening_63 : decode cX7_evening 63 = .ok (.aaload, 1) := by decide +kernel
theorem dX7_evening_64 : decode cX7_evening 64 = .ok (.aload_n 0, 1) := by decide +kernel
theorem dX7_evening_65 : decode cX7_evening 65 = .ok (.getfield 49, 3) := by decide +kernel
theorem dX7_evening_68 : decode cX7_evening 68 = .ok (.invokevirtual 269, 3) := by decide +kernel
theorem dX7_evening_71 : decode cX7_evening 71 = .ok (.i2l, 1) := by decide +kernel
theorem dX7_evening_72 : decode cX7_evening 72 = .ok (.ladd, 1) := by decide +kernel
theorem dX7_evening_73 : decode cX7_evening 73 = .ok (.lstore 4, 2) := by decide +kernel
theorem dX7_evening_75 : decode cX7_evening 75 = .ok (.iinc 6 1, 3) := by decide +kernel
theorem dX7_evening_78 : decode cX7_evening 78 = .ok (.goto (-38), 3) := by decide +kernel
theorem dX7_evening_81 : decode cX7_evening 81 = .ok (.lload 4, 2) := by decide +kernel
theorem dX7_evening_83 : decode cX7_evening 83 = .ok (.ldc2_w 273, 3) := by decide +kernel
theorem dX7_evening_86 : decode cX7_evening 86 = .ok (.ldiv, 1) := by decide +kernel
theorem dX7_evening_87 : decode cX7_evening 87 = .ok (.l2i, 1) := by decide +kernel
theorem dX7_evening_88 : decode cX7_evening 88 = .ok (.ireturn, 1) := by decide +kernel
theorem f_x_keep_rows : True := trivial
theorem dX7_keep_0 : decode cX7_keep 0 = .ok (.iload_n 1, 1) := by decide +kernel
theorem dX7_keep_1 : decode cX7_keep 1 = .ok (.iconst 0, 1) := by decide +kernel
theorem dX7_keep_2 : decode cX7_keep 2 = .ok (.iconst 1, 1) := by decide +kernel
theorem dX7_keep_3 : decode cX7_keep 3 = .ok (.invokestatic 112, 3) := by decide +kernel
theorem dX7_keep_6 : decode cX7_keep 6 = .ok (.ifCond .ne 7, 3) := by decide +kernel
theorem dX7_keep_9 : decode cX7_keep 9 = .ok (.sipush (-1001), 3) := by decide +kernel
theorem dX7_keep_12 : decode cX7_keep 12 = .ok (.ireturn, 1) := by decide +kernel
theorem dX7_keep_13 : decode cX7_keep 13 = .ok (.aload_n 0, 1) := by decide +kernel
theorem dX7_keep_14 : decode cX7_keep 14 = .ok (.getfield 53, 3) := by decide +kernel
theorem dX7_keep_17 : decode cX7_keep 17 = .ok (.iload_n 1, 1) := by decide +kernel
theorem dX7_keep_18 : decode cX7_keep 18 = .ok (.aaload, 1) := by decide +kernel
theorem dX7_keep_19 : decode cX7_keep 19 = .ok (.aload_n 0, 1) := by decide +kernel
theorem dX7_keep_20 : decode cX7_keep 20 = .ok (.getfield 49, 3) := by decide +kernel
theorem dX7_keep_23 : decode cX7_keep 23 = .ok (.invokevirtual 280, 3) := by decide +kernel
theorem dX7_keep_26 : decode cX7_keep 26 = .ok (.aload_n 0, 1) := by decide +kernel
theorem dX7_keep_27 : decode cX7_keep 27 = .ok (.getfield 57, 3) := by decide +kernel
theorem dX7_keep_30 : decode cX7_keep 30 = .ok (.iload_n 1, 1) := by decide +kernel
theorem dX7_keep_31 : decode cX7_keep 31 = .ok (.iconst 1, 1) := by decide +kernel
theorem dX7_keep_32 : decode cX7_keep 32 = .ok (.bastore, 1) := by decide +kernel
theorem dX7_keep_33 : decode cX7_keep 33 = .ok (.iconst 1, 1) := by decide +kernel
theorem dX7_keep_34 : decode cX7_keep 34 = .ok (.ireturn, 1) := by decide +kernel
theorem f_x_goBack_rows : True := trivial
theorem dX7_goBack_0 : decode cX7_goBack 0 = .ok (.iload_n 1, 1) := by decide +kernel
theorem dX7_goBack_1 : decode cX7_goBack 1 = .ok (.iconst 0, 1) := by decide +kernel
theorem dX7_goBack_2 : decode cX7_goBack 2 = .ok (.iconst 1, 1) := by decide +kernel
theorem dX7_goBack_3 : decode cX7_goBack 3 = .ok (.invokestatic 112, 3) := by decide +kernel
theorem dX7_goBack_6 : decode cX7_goBack 6 = .ok (.ifCond .ne 7, 3) := by decide +kernel
theorem dX7_goBack_9 : decode cX7_goBack 9 = .ok (.sipush (-1001), 3) := by decide +kernel
theorem dX7_goBack_12 : decode cX7_goBack 12 = .ok (.ireturn, 1) := by decide +kernel
theorem dX7_goBack_13 : decode cX7_goBack 13 = .ok (.aload_n 0, 1) := by decide +kernel
theorem dX7_goBack_14 : decode cX7_goBack 14 = .ok (.getfield 57, 3) := by decide +kernel
theorem dX7_goBack_17 : decode cX7_goBack 17 = .ok (.iload_n 1, 1) := by decide +kernel
theorem dX7_goBack_18 : decode cX7_goBack 18 = .ok (.baload, 1) := by decide +kernel
theorem dX7_goBack_19 : decode cX7_goBack 19 = .ok (.ifCond .ne 7, 3) := by decide +kernel
theorem dX7_goBack_22 : decode cX7_goBack 22 = .ok (.sipush (-1003), 3) := by decide +kernel
theorem dX7_goBack_25 : decode cX7_goBack 25 = .ok (.ireturn, 1) := by decide +kernel
theorem dX7_goBack_26 : decode cX7_goBack 26 = .ok (.aload_n 0, 1) := by decide +kernel
theorem dX7_goBack_27 : decode cX7_goBack 27 = .ok (.getfield 49, 3) := by decide +kernel
theorem dX7_goBack_30 : decode cX7_goBack 30 = .ok (.aload_n 0, 1) := by decide +kernel
theorem dX7_goBack_31 : decode cX7_goBack 31 = .ok (.getfield 53, 3) := by decide +kernel
theorem dX7_goBack_34 : decode cX7_goBack 34 = .ok (.iload_n 1, 1) := by decide +kernel
theorem dX7_goBack_35 : decode cX7_goBack 35 = .ok (.aaload, 1) := by decide +kernel
theorem dX7_goBack_36 : decode cX7_goBack 36 = .ok (.invokevirtual 280, 3) := by decide +kernel
theorem dX7_goBack_39 : decode cX7_goBack 39 = .ok (.iconst 1, 1) := by decide +kernel
theorem dX7_goBack_40 : decode cX7_goBack 40 = .ok (.ireturn, 1) := by decide +kernel
theorem tw_100 : Cond.methodLink RX7 3 objectInit ∈ LW := LWm1 (i := 22) (by decide +kernel) rfl
theorem tw_101 : Cond.instanceMethod objectInit ∈ LW := LWm1 (i := 23) (by decide +kernel) rfl
set_option maxRecDepth 100000 in theorem tw_102 : Cond.code objectInit ⟨#[0xb1]⟩ 1 none ∈ LW := LWm1 (i := 24) rfl rfl
theorem tw_103 : Cond.classLink RX7 9 RX6 ∈ LW := LWm1 (i := 25) (by decide +kernel) rfl
theorem tw_104 : Cond.instantiable RX6 6 ∈ LW := LWm1 (i := 26) (by decide +kernel) rfl
theorem tw_106 : Cond.instanceMethod yX6_init ∈ LW := LWm1 (i := 28) (by decide +kernel) rfl
set_option maxRecDepth 100000 in theorem tw_107 : Cond.code yX6_init cX6_init 1 none ∈ LW := LWm1 (i := 29) rfl rfl
theorem tw_108 : Cond.methodLink RX6 3 objectInit ∈ LW := LWm1 (i := 30) (by decide +kernel) rfl
theorem tw_136 : Cond.arrayClass .byte ∈ LW := LWm1 (i := 58) (by decide +kernel) rfl
theorem tw_137 : Cond.classLink RX7 16 RX5 ∈ LW := LWm1 (i := 59) (by decide +kernel) rfl
theorem tw_139 : Cond.classLink RX7 22 RX0 ∈ LW := LWm1 (i := 61) (by decide +kernel) rfl
theorem tw_141 : Cond.instantiable RX5 4 ∈ LW := LWm1 (i := 63) (by decide +kernel) rfl
theorem tw_143 : Cond.instanceMethod yX5_init ∈ LW := LWm1 (i := 65) (by decide +kernel) rfl
set_option maxRecDepth 100000 in theorem tw_144 : Cond.code yX5_init cX5_init 1 none ∈ LW := LWm1 (i := 66) rfl rfl
theorem tw_145 : Cond.methodLink RX5 3 objectInit ∈ LW := LWm1 (i := 67) (by decide +kernel) rfl
theorem tw_164 : Cond.arrayClass .int ∈ LW := LWm1 (i := 86) (by decide +kernel) rfl
theorem tw_165 : Cond.classLink RX7 33 RX3 ∈ LW := LWm1 (i := 87) (by decide +kernel) rfl
theorem tw_167 : Cond.classLink RX7 46 RX4 ∈ LW := LWm1 (i := 89) (by decide +kernel) rfl
theorem tw_168 : Cond.instantiable RX4 6 ∈ LW := LWm1 (i := 90) (by decide +kernel) rfl
theorem tw_170 : Cond.instanceMethod yX4_init ∈ LW := LWm1 (i := 92) (by decide +kernel) rfl
set_option maxRecDepth 100000 in theorem tw_171 : Cond.code yX4_init cX4_init 1 none ∈ LW := LWm1 (i := 93) rfl rfl
theorem tw_172 : Cond.methodLink RX4 3 objectInit ∈ LW := LWm1 (i := 94) (by decide +kernel) rfl
theorem tw_204 : Cond.classLink RX7 61 RX2 ∈ LW := LWm1 (i := 126) (by decide +kernel) rfl
theorem tw_205 : Cond.instantiable RX2 5 ∈ LW := LWm1 (i := 127) (by decide +kernel) rfl
theorem tw_207 : Cond.instanceMethod yX2_init ∈ LW := LWm1 (i := 129) (by decide +kernel) rfl
set_option maxRecDepth 100000 in theorem tw_208 : Cond.code yX2_init cX2_init 1 none ∈ LW := LWm1 (i := 130) rfl rfl
theorem tw_209 : Cond.methodLink RX2 3 objectInit ∈ LW := LWm1 (i := 131) (by decide +kernel) rfl
theorem tw_228 : Cond.arrayClass .boolean ∈ LW := LWm1 (i := 150) (by decide +kernel) rfl
theorem tw_229 : Cond.classLink RX7 68 RX1 ∈ LW := LWm1 (i := 151) (by decide +kernel) rfl
theorem tw_230 : Cond.instantiable RX1 8 ∈ LW := LWm1 (i := 152) (by decide +kernel) rfl
theorem tw_231 : Cond.methodLink RX7 70 yX1_init ∈ LW := LWm1 (i := 153) (by decide +kernel) rfl
theorem tw_232 : Cond.instanceMethod yX1_init ∈ LW := LWm1 (i := 154) (by decide +kernel) rfl
set_option maxRecDepth 100000 in theorem tw_233 : Cond.code yX1_init cX1_init 2 none ∈ LW := LWm1 (i := 155) rfl rfl
theorem tw_234 : Cond.methodLink RX1 3 objectInit ∈ LW := LWm1 (i := 156) (by decide +kernel) rfl
theorem tw_261 : Cond.instantiable RX0 5 ∈ LW := LWm1 (i := 183) (by decide +kernel) rfl
theorem tw_262 : Cond.methodLink RX7 77 yX0_init ∈ LW := LWm1 (i := 184) (by decide +kernel) rfl
theorem tw_263 : Cond.instanceMethod yX0_init ∈ LW := LWm1 (i := 185) (by decide +kernel) rfl
set_option maxRecDepth 100000 in theorem tw_264 : Cond.code yX0_init cX0_init 2 none ∈ LW := LWm1 (i := 186) rfl rfl
theorem tw_265 : Cond.methodLink RX0 3 objectInit ∈ LW := LWm1 (i := 187) (by decide +kernel) rfl
theorem tw_284 : Cond.instantiable RX3 5 ∈ LW := LWm1 (i := 206) (by decide +kernel) rfl
theorem tw_286 : Cond.instanceMethod yX3_init ∈ LW := LWm1 (i := 208) (by decide +kernel) rfl
set_option maxRecDepth 100000 in theorem tw_287 : Cond.code yX3_init cX3_init 1 none ∈ LW := LWm1 (i := 209) rfl rfl
theorem tw_288 : Cond.methodLink RX3 3 objectInit ∈ LW := LWm1 (i := 210) (by decide +kernel) rfl
theorem x_glue9 : True := trivial
theorem vv_0 : vv 0 0 0 (fun _ => 0) = (fun _ => 0) := by
  funext j
  unfold vv
  by_cases h0 : j = 0
  · rw [if_pos h0]; rfl
  · rw [if_neg h0]
    by_cases h6 : j = 6
    · rw [if_pos h6]; rfl
    · rw [if_neg h6]
      by_cases h8 : j = 8
      · rw [if_pos h8]; rfl
      · rw [if_neg h8]

theorem dX6_init_0 : decode cX6_init 0 = .ok (.aload_n 0, 1) := by decide +kernel
theorem dX6_init_1 : decode cX6_init 1 = .ok (.invokespecial 3, 3) := by decide +kernel
theorem dX6_init_4 : decode cX6_init 4 = .ok (.aload_n 0, 1) := by decide +kernel
theorem dX6_init_5 : decode cX6_init 5 = .ok (.sipush 240, 3) := by decide +kernel
theorem dX6_init_8 : decode cX6_init 8 = .ok (.newarray .byte, 2) := by decide +kernel
theorem dX6_init_10 : decode cX6_init 10 = .ok (.putfield 9, 3) := by decide +kernel
theorem dX6_init_13 : decode cX6_init 13 = .ok (.aload_n 0, 1) := by decide +kernel
theorem dX6_init_14 : decode cX6_init 14 = .ok (.iconst 0, 1) := by decide +kernel
theorem dX6_init_15 : decode cX6_init 15 = .ok (.putfield 15, 3) := by decide +kernel
theorem dX6_init_18 : decode cX6_init 18 = .ok (.aload_n 0, 1) := by decide +kernel
theorem dX6_init_19 : decode cX6_init 19 = .ok (.iconst 0, 1) := by decide +kernel
theorem dX6_init_20 : decode cX6_init 20 = .ok (.putfield 19, 3) := by decide +kernel
theorem dX6_init_23 : decode cX6_init 23 = .ok (.aload_n 0, 1) := by decide +kernel
theorem dX6_init_24 : decode cX6_init 24 = .ok (.iconst 0, 1) := by decide +kernel
theorem dX6_init_25 : decode cX6_init 25 = .ok (.putfield 22, 3) := by decide +kernel
theorem dX6_init_28 : decode cX6_init 28 = .ok (.aload_n 0, 1) := by decide +kernel
theorem dX6_init_29 : decode cX6_init 29 = .ok (.iconst 0, 1) := by decide +kernel
theorem dX6_init_30 : decode cX6_init 30 = .ok (.putfield 25, 3) := by decide +kernel
theorem dX6_init_33 : decode cX6_init 33 = .ok (.aload_n 0, 1) := by decide +kernel
theorem dX6_init_34 : decode cX6_init 34 = .ok (.iconst 0, 1) := by decide +kernel
theorem dX6_init_35 : decode cX6_init 35 = .ok (.putfield 28, 3) := by decide +kernel
theorem dX6_init_38 : decode cX6_init 38 = .ok (.return_, 1) := by decide +kernel
set_option maxHeartbeats 4000000 in
set_option maxRecDepth 100000 in
theorem x_Text_init (l : Launch) (D : va_G) (k : Nat → ClassId) (st : Nat → Nat) (lo : Nat) (h0 : Nat)  : CWv l D k st lo yX6_init cX6_init 1 none ({ frames := 1, cells := 1, slots := 240, locals := 12 }) 1 240 [.ref h0] [(h0, .inr (6, [.null, .int 0, .int 0, .int 0, .int 0, .int 0]))] (fun (_ : Nat) => True) (fun (q0 : Nat) => [(h0, .inr (6, (fX6 q0 0 0 0 0 0))), (aB k q0 240 (fun _ => 0))]) := by
  intro sz
  refine Met.ofW (cc := cX6_init) (maxL := 1) (ret := none) (by decide) rfl ?_
  intro p e s m args below meth c s₁ B hml hv
  obtain ⟨rfl, hsz, hlo, hP, hK, hDL, hZ⟩ := hv
  have hx := B.exec
  have hb := B.bytes
  have hr := B.returns
  have hts := WS_ts B.pre
  have hown : s.vm.findClass RX6 = some m.cls := findClass_of_methodNamed B.named
  have hlocks := B.notSynchronized
  have hin : meth.name = "<init>" := (name_of_methodNamed B.named B.method).1
  subst hsz
  have hD := hDL.self (sz := s.heap.size)
  have hAlo := A_lo hDL hlo
  generalize hAe : va_A [(h0, .inr (6, [.null, .int 0, .int 0, .int 0, .int 0, .int 0]))] s.heap.size = A at hD hAlo ⊢
  have hA : ∀ q : Nat, s.heap.size ≤ q → A q := fun q h => by rw [← hAe]; exact Or.inr h
  have hS : va_S A s.heap s.heap [] := va_S.rf
  have hl := lv_entry ([.ref h0]) (n := 1) (Nat.le_of_ble_eq_true rfl)
  rw [lg_entry_eq]
  generalize (lg_sl ([.ref h0]) ++ List.replicate (1 - (lg_sl ([.ref h0])).length) Slot.unset).toArray = ls at hl ⊢
  have hl : lv_has ls 1 [(0, .ref h0)] := hl
  refine lv_aload_n hx hb dX6_init_0 rfl (lv_at hl 0 rfl) ?_
  refine W.objInit hx hb hown (hts _ tw_108) (hts _ tw_101) (hts _ tw_102) rfl (by rw [hml]; exact hl.1) rfl dX6_init_1 (Nat.le_of_ble_eq_true rfl) (Nat.le_of_ble_eq_true rfl) ?_
  refine W.eq (g2 := F0 m 4 ls []) rfl ?_
  refine lv_aload_n hx hb dX6_init_4 rfl (lv_at hl 0 rfl) ?_
  refine lv_sipush (v := 240) hx hb dX6_init_5 (by decide) ?_
  refine nwa (atype := .byte) (t0 := 0) (a0 := (240, .inl (fun _ => 0))) hx hb (hts _ tw_136) rfl rfl hK hP hD hS hA (fun _ => rfl) (by decide) (N' := 240) (by decide) (by decide) (Nat.le_of_ble_eq_true rfl) (Nat.le_of_ble_eq_true rfl) dX6_init_8 (fun q_1 H hP hD hS => ?_)
  refine W.widen (k := 1) (n := 240) (by decide) (by decide) ?_
  have hQ9 := pd_mk [(h0, .inr (6, [.null, .int 0, .int 0, .int 0, .int 0, .int 0])), (aB k q_1 240 (fun _ => 0))] hP hD
  clear hP hD
  obtain ⟨hP, hD⟩ := hQ9
  refine va_putF (D := D) (ci := 6) (v := .ref q_1) (ty := (.array .byte)) (C := RX6) (T := TX6) (N := 6) hx hb hts inX6 tyX6 tyX6_ok nmX6 hown hK hP hD hS 0 rfl rfl 0 (by decide) (hts _ tw_109) (fun _ h9 => h9) rfl hin rfl (by decide +kernel) rfl rfl (Nat.le_of_ble_eq_true rfl) dX6_init_10 (fun H locs hP hD hS => ?_)
  have hQ9 := pd_mk [(h0, .inr (6, (fX6 q_1 0 0 0 0 0))), (aB k q_1 240 (fun _ => 0))] hP hD
  clear hP hD
  obtain ⟨hP, hD⟩ := hQ9
  refine lv_aload_n hx hb dX6_init_13 rfl (lv_at hl 0 rfl) ?_
  refine lv_iconst (v := 0) hx hb dX6_init_14 (by decide) ?_
  refine va_put (D := D) (ci := 6) (v := .int 0) (ty := .int) (C := RX6) (T := TX6) (N := 6) hx hb hts inX6 tyX6 tyX6_ok nmX6 hown hK hP hD hS 0 rfl rfl 1 (by decide) (hts _ tw_110) (fun _ h9 => h9) rfl (by decide +kernel) rfl rfl (Nat.le_of_ble_eq_true rfl) dX6_init_15 (fun H locs hP hD hS => ?_)
  have hQ9 := pd_mk [(h0, .inr (6, (fX6 q_1 0 0 0 0 0))), (aB k q_1 240 (fun _ => 0))] hP hD
  clear hP hD
  obtain ⟨hP, hD⟩ := hQ9
  refine lv_aload_n hx hb dX6_init_18 rfl (lv_at hl 0 rfl) ?_
  refine lv_iconst (v := 0) hx hb dX6_init_19 (by decide) ?_
  refine va_put (D := D) (ci := 6) (v := .int 0) (ty := .int) (C := RX6) (T := TX6) (N := 6) hx hb hts inX6 tyX6 tyX6_ok nmX6 hown hK hP hD hS 0 rfl rfl 2 (by decide) (hts _ tw_113) (fun _ h9 => h9) rfl (by decide +kernel) rfl rfl (Nat.le_of_ble_eq_true rfl) dX6_init_20 (fun H locs hP hD hS => ?_)
  have hQ9 := pd_mk [(h0, .inr (6, (fX6 q_1 0 0 0 0 0))), (aB k q_1 240 (fun _ => 0))] hP hD
  clear hP hD
  obtain ⟨hP, hD⟩ := hQ9
  refine lv_aload_n hx hb dX6_init_23 rfl (lv_at hl 0 rfl) ?_
  refine lv_iconst (v := 0) hx hb dX6_init_24 (by decide) ?_
  refine va_put (D := D) (ci := 6) (v := .int 0) (ty := .int) (C := RX6) (T := TX6) (N := 6) hx hb hts inX6 tyX6 tyX6_ok nmX6 hown hK hP hD hS 0 rfl rfl 3 (by decide) (hts _ tw_116) (fun _ h9 => h9) rfl (by decide +kernel) rfl rfl (Nat.le_of_ble_eq_true rfl) dX6_init_25 (fun H locs hP hD hS => ?_)
  have hQ9 := pd_mk [(h0, .inr (6, (fX6 q_1 0 0 0 0 0))), (aB k q_1 240 (fun _ => 0))] hP hD
  clear hP hD
  obtain ⟨hP, hD⟩ := hQ9
  refine lv_aload_n hx hb dX6_init_28 rfl (lv_at hl 0 rfl) ?_
  refine lv_iconst (v := 0) hx hb dX6_init_29 (by decide) ?_
  refine va_put (D := D) (ci := 6) (v := .int 0) (ty := .int) (C := RX6) (T := TX6) (N := 6) hx hb hts inX6 tyX6 tyX6_ok nmX6 hown hK hP hD hS 0 rfl rfl 4 (by decide) (hts _ tw_119) (fun _ h9 => h9) rfl (by decide +kernel) rfl rfl (Nat.le_of_ble_eq_true rfl) dX6_init_30 (fun H locs hP hD hS => ?_)
  have hQ9 := pd_mk [(h0, .inr (6, (fX6 q_1 0 0 0 0 0))), (aB k q_1 240 (fun _ => 0))] hP hD
  clear hP hD
  obtain ⟨hP, hD⟩ := hQ9
  refine lv_aload_n hx hb dX6_init_33 rfl (lv_at hl 0 rfl) ?_
  refine lv_iconst (v := 0) hx hb dX6_init_34 (by decide) ?_
  refine va_put (D := D) (ci := 6) (v := .int 0) (ty := .int) (C := RX6) (T := TX6) (N := 6) hx hb hts inX6 tyX6 tyX6_ok nmX6 hown hK hP hD hS 0 rfl rfl 5 (by decide) (hts _ tw_121) (fun _ h9 => h9) rfl (by decide +kernel) rfl rfl (Nat.le_of_ble_eq_true rfl) dX6_init_35 (fun H locs hP hD hS => ?_)
  have hQ9 := pd_mk [(h0, .inr (6, (fX6 q_1 0 0 0 0 0))), (aB k q_1 240 (fun _ => 0))] hP hD
  clear hP hD
  obtain ⟨hP, hD⟩ := hQ9
  obtain ⟨hP9, hD9⟩ := pd_sub [(h0, .inr (6, (fX6 q_1 0 0 0 0 0))), (aB k q_1 240 (fun _ => 0))] [0, 1] hP hD (by decide) rfl
  refine W.widen (k := 1) (n := 240) (by decide) (by decide) ?_
  exact W.vret hx hb hr (fun t ht hW => ⟨⟨q_1, rfl, trivial, by rw [ht]; exact hP9, hD9⟩, hS.F ht⟩) hS.2.2 dX6_init_38

theorem dX5_init_0 : decode cX5_init 0 = .ok (.aload_n 0, 1) := by decide +kernel
theorem dX5_init_1 : decode cX5_init 1 = .ok (.invokespecial 3, 3) := by decide +kernel
theorem dX5_init_4 : decode cX5_init 4 = .ok (.aload_n 0, 1) := by decide +kernel
theorem dX5_init_5 : decode cX5_init 5 = .ok (.bipush 10, 2) := by decide +kernel
theorem dX5_init_7 : decode cX5_init 7 = .ok (.newarray .int, 2) := by decide +kernel
theorem dX5_init_9 : decode cX5_init 9 = .ok (.putfield 9, 3) := by decide +kernel
theorem dX5_init_12 : decode cX5_init 12 = .ok (.aload_n 0, 1) := by decide +kernel
theorem dX5_init_13 : decode cX5_init 13 = .ok (.bipush 24, 2) := by decide +kernel
theorem dX5_init_15 : decode cX5_init 15 = .ok (.newarray .int, 2) := by decide +kernel
theorem dX5_init_17 : decode cX5_init 17 = .ok (.putfield 15, 3) := by decide +kernel
theorem dX5_init_20 : decode cX5_init 20 = .ok (.aload_n 0, 1) := by decide +kernel
theorem dX5_init_21 : decode cX5_init 21 = .ok (.bipush 24, 2) := by decide +kernel
theorem dX5_init_23 : decode cX5_init 23 = .ok (.newarray .int, 2) := by decide +kernel
theorem dX5_init_25 : decode cX5_init 25 = .ok (.putfield 18, 3) := by decide +kernel
theorem dX5_init_28 : decode cX5_init 28 = .ok (.aload_n 0, 1) := by decide +kernel
theorem dX5_init_29 : decode cX5_init 29 = .ok (.iconst 4, 1) := by decide +kernel
theorem dX5_init_30 : decode cX5_init 30 = .ok (.newarray .int, 2) := by decide +kernel
theorem dX5_init_32 : decode cX5_init 32 = .ok (.putfield 21, 3) := by decide +kernel
theorem dX5_init_35 : decode cX5_init 35 = .ok (.return_, 1) := by decide +kernel
set_option maxHeartbeats 4000000 in
set_option maxRecDepth 100000 in
theorem x_Street_init (l : Launch) (D : va_G) (k : Nat → ClassId) (st : Nat → Nat) (lo : Nat) (h0 : Nat)  : CWv l D k st lo yX5_init cX5_init 1 none ({ frames := 1, cells := 4, slots := 62, locals := 12 }) 4 62 [.ref h0] [(h0, .inr (5, [.null, .null, .null, .null]))] (fun (_ : Nat × Nat × Nat × Nat) => True) (fun (u : Nat × Nat × Nat × Nat) => match u with | (q0, q1, q2, q3) => [(h0, .inr (5, (fX5 q0 q1 q2 q3))), (aI k q0 10 (vv 0 0 0 (fun _ => 0))), (aI k q1 24 (fun _ => 0)), (aI k q2 24 (fun _ => 0)), (aI k q3 4 (fun _ => 0))]) := by
  intro sz
  refine Met.ofW (cc := cX5_init) (maxL := 1) (ret := none) (by decide) rfl ?_
  intro p e s m args below meth c s₁ B hml hv
  obtain ⟨rfl, hsz, hlo, hP, hK, hDL, hZ⟩ := hv
  have hx := B.exec
  have hb := B.bytes
  have hr := B.returns
  have hts := WS_ts B.pre
  have hown : s.vm.findClass RX5 = some m.cls := findClass_of_methodNamed B.named
  have hlocks := B.notSynchronized
  have hin : meth.name = "<init>" := (name_of_methodNamed B.named B.method).1
  subst hsz
  have hD := hDL.self (sz := s.heap.size)
  have hAlo := A_lo hDL hlo
  generalize hAe : va_A [(h0, .inr (5, [.null, .null, .null, .null]))] s.heap.size = A at hD hAlo ⊢
  have hA : ∀ q : Nat, s.heap.size ≤ q → A q := fun q h => by rw [← hAe]; exact Or.inr h
  have hS : va_S A s.heap s.heap [] := va_S.rf
  have hl := lv_entry ([.ref h0]) (n := 1) (Nat.le_of_ble_eq_true rfl)
  rw [lg_entry_eq]
  generalize (lg_sl ([.ref h0]) ++ List.replicate (1 - (lg_sl ([.ref h0])).length) Slot.unset).toArray = ls at hl ⊢
  have hl : lv_has ls 1 [(0, .ref h0)] := hl
  refine lv_aload_n hx hb dX5_init_0 rfl (lv_at hl 0 rfl) ?_
  refine W.objInit hx hb hown (hts _ tw_145) (hts _ tw_101) (hts _ tw_102) rfl (by rw [hml]; exact hl.1) rfl dX5_init_1 (Nat.le_of_ble_eq_true rfl) (Nat.le_of_ble_eq_true rfl) ?_
  refine W.eq (g2 := F0 m 4 ls []) rfl ?_
  refine lv_aload_n hx hb dX5_init_4 rfl (lv_at hl 0 rfl) ?_
  refine lv_bipush (v := 10) hx hb dX5_init_5 (by decide) ?_
  refine nwa (atype := .int) (t0 := 1) (a0 := (10, .inl (fun _ => 0))) hx hb (hts _ tw_164) rfl rfl hK hP hD hS hA (fun _ => rfl) (by decide) (N' := 10) (by decide) (by decide) (Nat.le_of_ble_eq_true rfl) (Nat.le_of_ble_eq_true rfl) dX5_init_7 (fun q_1 H hP hD hS => ?_)
  refine W.widen (k := 1) (n := 10) (by decide) (by decide) ?_
  have hQ9 := pd_mk [(h0, .inr (5, [.null, .null, .null, .null])), (aI k q_1 10 (fun _ => 0))] hP hD
  clear hP hD
  obtain ⟨hP, hD⟩ := hQ9
  refine va_putF (D := D) (ci := 5) (v := .ref q_1) (ty := (.array .int)) (C := RX5) (T := TX5) (N := 4) hx hb hts inX5 tyX5 tyX5_ok nmX5 hown hK hP hD hS 0 rfl rfl 0 (by decide) (hts _ tw_146) (fun _ h9 => h9) rfl hin rfl (by decide +kernel) rfl rfl (Nat.le_of_ble_eq_true rfl) dX5_init_9 (fun H locs hP hD hS => ?_)
  have hQ9 := pd_mk [(h0, .inr (5, [.ref q_1, .null, .null, .null])), (aI k q_1 10 (fun _ => 0))] hP hD
  clear hP hD
  obtain ⟨hP, hD⟩ := hQ9
  refine lv_aload_n hx hb dX5_init_12 rfl (lv_at hl 0 rfl) ?_
  refine lv_bipush (v := 24) hx hb dX5_init_13 (by decide) ?_
  refine nwa (atype := .int) (t0 := 1) (a0 := (24, .inl (fun _ => 0))) hx hb (hts _ tw_164) rfl rfl hK hP hD hS hA (fun _ => rfl) (by decide) (N' := 24) (by decide) (by decide) (Nat.le_of_ble_eq_true rfl) (Nat.le_of_ble_eq_true rfl) dX5_init_15 (fun q_2 H hP hD hS => ?_)
  refine W.widen (k := 2) (n := 34) (by decide) (by decide) ?_
  have hQ9 := pd_mk [(h0, .inr (5, [.ref q_1, .null, .null, .null])), (aI k q_1 10 (fun _ => 0)), (aI k q_2 24 (fun _ => 0))] hP hD
  clear hP hD
  obtain ⟨hP, hD⟩ := hQ9
  refine va_putF (D := D) (ci := 5) (v := .ref q_2) (ty := (.array .int)) (C := RX5) (T := TX5) (N := 4) hx hb hts inX5 tyX5 tyX5_ok nmX5 hown hK hP hD hS 0 rfl rfl 1 (by decide) (hts _ tw_150) (fun _ h9 => h9) rfl hin rfl (by decide +kernel) rfl rfl (Nat.le_of_ble_eq_true rfl) dX5_init_17 (fun H locs hP hD hS => ?_)
  have hQ9 := pd_mk [(h0, .inr (5, [.ref q_1, .ref q_2, .null, .null])), (aI k q_1 10 (fun _ => 0)), (aI k q_2 24 (fun _ => 0))] hP hD
  clear hP hD
  obtain ⟨hP, hD⟩ := hQ9
  refine lv_aload_n hx hb dX5_init_20 rfl (lv_at hl 0 rfl) ?_
  refine lv_bipush (v := 24) hx hb dX5_init_21 (by decide) ?_
  refine nwa (atype := .int) (t0 := 1) (a0 := (24, .inl (fun _ => 0))) hx hb (hts _ tw_164) rfl rfl hK hP hD hS hA (fun _ => rfl) (by decide) (N' := 24) (by decide) (by decide) (Nat.le_of_ble_eq_true rfl) (Nat.le_of_ble_eq_true rfl) dX5_init_23 (fun q_3 H hP hD hS => ?_)
  refine W.widen (k := 3) (n := 58) (by decide) (by decide) ?_
  have hQ9 := pd_mk [(h0, .inr (5, [.ref q_1, .ref q_2, .null, .null])), (aI k q_1 10 (fun _ => 0)), (aI k q_2 24 (fun _ => 0)), (aI k q_3 24 (fun _ => 0))] hP hD
  clear hP hD
  obtain ⟨hP, hD⟩ := hQ9
  refine va_putF (D := D) (ci := 5) (v := .ref q_3) (ty := (.array .int)) (C := RX5) (T := TX5) (N := 4) hx hb hts inX5 tyX5 tyX5_ok nmX5 hown hK hP hD hS 0 rfl rfl 2 (by decide) (hts _ tw_152) (fun _ h9 => h9) rfl hin rfl (by decide +kernel) rfl rfl (Nat.le_of_ble_eq_true rfl) dX5_init_25 (fun H locs hP hD hS => ?_)
  have hQ9 := pd_mk [(h0, .inr (5, [.ref q_1, .ref q_2, .ref q_3, .null])), (aI k q_1 10 (fun _ => 0)), (aI k q_2 24 (fun _ => 0)), (aI k q_3 24 (fun _ => 0))] hP hD
  clear hP hD
  obtain ⟨hP, hD⟩ := hQ9
  refine lv_aload_n hx hb dX5_init_28 rfl (lv_at hl 0 rfl) ?_
  refine lv_iconst (v := 4) hx hb dX5_init_29 (by decide) ?_
  refine nwa (atype := .int) (t0 := 1) (a0 := (4, .inl (fun _ => 0))) hx hb (hts _ tw_164) rfl rfl hK hP hD hS hA (fun _ => rfl) (by decide) (N' := 4) (by decide) (by decide) (Nat.le_of_ble_eq_true rfl) (Nat.le_of_ble_eq_true rfl) dX5_init_30 (fun q_4 H hP hD hS => ?_)
  refine W.widen (k := 4) (n := 62) (by decide) (by decide) ?_
  have hQ9 := pd_mk [(h0, .inr (5, [.ref q_1, .ref q_2, .ref q_3, .null])), (aI k q_1 10 (fun _ => 0)), (aI k q_2 24 (fun _ => 0)), (aI k q_3 24 (fun _ => 0)), (aI k q_4 4 (fun _ => 0))] hP hD
  clear hP hD
  obtain ⟨hP, hD⟩ := hQ9
  refine va_putF (D := D) (ci := 5) (v := .ref q_4) (ty := (.array .int)) (C := RX5) (T := TX5) (N := 4) hx hb hts inX5 tyX5 tyX5_ok nmX5 hown hK hP hD hS 0 rfl rfl 3 (by decide) (hts _ tw_154) (fun _ h9 => h9) rfl hin rfl (by decide +kernel) rfl rfl (Nat.le_of_ble_eq_true rfl) dX5_init_32 (fun H locs hP hD hS => ?_)
  have hQ9 := pd_mk [(h0, .inr (5, (fX5 q_1 q_2 q_3 q_4))), (aI k q_1 10 (fun _ => 0)), (aI k q_2 24 (fun _ => 0)), (aI k q_3 24 (fun _ => 0)), (aI k q_4 4 (fun _ => 0))] hP hD
  clear hP hD
  obtain ⟨hP, hD⟩ := hQ9
  replace hP : va_P D classes [(h0, .inr (5, (fX5 q_1 q_2 q_3 q_4))), (aI k q_1 10 (vv 0 0 0 (fun _ => 0))), (aI k q_2 24 (fun _ => 0)), (aI k q_3 24 (fun _ => 0)), (aI k q_4 4 (fun _ => 0))] H := by rw [vv_0]; exact hP
  replace hD : va_D A [(h0, .inr (5, (fX5 q_1 q_2 q_3 q_4))), (aI k q_1 10 (vv 0 0 0 (fun _ => 0))), (aI k q_2 24 (fun _ => 0)), (aI k q_3 24 (fun _ => 0)), (aI k q_4 4 (fun _ => 0))] := by rw [vv_0]; exact hD
  obtain ⟨hP9, hD9⟩ := pd_sub [(h0, .inr (5, (fX5 q_1 q_2 q_3 q_4))), (aI k q_1 10 (vv 0 0 0 (fun _ => 0))), (aI k q_2 24 (fun _ => 0)), (aI k q_3 24 (fun _ => 0)), (aI k q_4 4 (fun _ => 0))] [0, 1, 2, 3, 4] hP hD (by decide) rfl
  refine W.widen (k := 4) (n := 62) (by decide) (by decide) ?_
  exact W.vret hx hb hr (fun t ht hW => ⟨⟨(q_1, q_2, q_3, q_4), rfl, trivial, by rw [ht]; exact hP9, hD9⟩, hS.F ht⟩) hS.2.2 dX5_init_35

theorem dX3_init_0 : decode cX3_init 0 = .ok (.aload_n 0, 1) := by decide +kernel
theorem dX3_init_1 : decode cX3_init 1 = .ok (.invokespecial 3, 3) := by decide +kernel
theorem dX3_init_4 : decode cX3_init 4 = .ok (.aload_n 0, 1) := by decide +kernel
theorem dX3_init_5 : decode cX3_init 5 = .ok (.bipush 24, 2) := by decide +kernel
theorem dX3_init_7 : decode cX3_init 7 = .ok (.newarray .int, 2) := by decide +kernel
theorem dX3_init_9 : decode cX3_init 9 = .ok (.putfield 9, 3) := by decide +kernel
theorem dX3_init_12 : decode cX3_init 12 = .ok (.aload_n 0, 1) := by decide +kernel
theorem dX3_init_13 : decode cX3_init 13 = .ok (.bipush 24, 2) := by decide +kernel
theorem dX3_init_15 : decode cX3_init 15 = .ok (.newarray .int, 2) := by decide +kernel
theorem dX3_init_17 : decode cX3_init 17 = .ok (.putfield 15, 3) := by decide +kernel
theorem dX3_init_20 : decode cX3_init 20 = .ok (.aload_n 0, 1) := by decide +kernel
theorem dX3_init_21 : decode cX3_init 21 = .ok (.iconst 0, 1) := by decide +kernel
theorem dX3_init_22 : decode cX3_init 22 = .ok (.putfield 18, 3) := by decide +kernel
theorem dX3_init_25 : decode cX3_init 25 = .ok (.aload_n 0, 1) := by decide +kernel
theorem dX3_init_26 : decode cX3_init 26 = .ok (.iconst 0, 1) := by decide +kernel
theorem dX3_init_27 : decode cX3_init 27 = .ok (.putfield 22, 3) := by decide +kernel
theorem dX3_init_30 : decode cX3_init 30 = .ok (.aload_n 0, 1) := by decide +kernel
theorem dX3_init_31 : decode cX3_init 31 = .ok (.iconst 0, 1) := by decide +kernel
theorem dX3_init_32 : decode cX3_init 32 = .ok (.putfield 25, 3) := by decide +kernel
theorem dX3_init_35 : decode cX3_init 35 = .ok (.return_, 1) := by decide +kernel
set_option maxHeartbeats 4000000 in
set_option maxRecDepth 100000 in
theorem x_Rule_init (l : Launch) (D : va_G) (k : Nat → ClassId) (st : Nat → Nat) (lo : Nat) (h0 : Nat)  : CWv l D k st lo yX3_init cX3_init 1 none ({ frames := 1, cells := 2, slots := 48, locals := 12 }) 2 48 [.ref h0] [(h0, .inr (3, [.null, .null, .int 0, .int 0, .int 0]))] (fun (_ : Nat × Nat) => True) (fun (u : Nat × Nat) => match u with | (q0, q1) => [(h0, .inr (3, (fX3 q0 q1 0 0 0))), (aI k q0 24 (fun _ => 0)), (aI k q1 24 (fun _ => 0))]) := by
  intro sz
  refine Met.ofW (cc := cX3_init) (maxL := 1) (ret := none) (by decide) rfl ?_
  intro p e s m args below meth c s₁ B hml hv
  obtain ⟨rfl, hsz, hlo, hP, hK, hDL, hZ⟩ := hv
  have hx := B.exec
  have hb := B.bytes
  have hr := B.returns
  have hts := WS_ts B.pre
  have hown : s.vm.findClass RX3 = some m.cls := findClass_of_methodNamed B.named
  have hlocks := B.notSynchronized
  have hin : meth.name = "<init>" := (name_of_methodNamed B.named B.method).1
  subst hsz
  have hD := hDL.self (sz := s.heap.size)
  have hAlo := A_lo hDL hlo
  generalize hAe : va_A [(h0, .inr (3, [.null, .null, .int 0, .int 0, .int 0]))] s.heap.size = A at hD hAlo ⊢
  have hA : ∀ q : Nat, s.heap.size ≤ q → A q := fun q h => by rw [← hAe]; exact Or.inr h
  have hS : va_S A s.heap s.heap [] := va_S.rf
  have hl := lv_entry ([.ref h0]) (n := 1) (Nat.le_of_ble_eq_true rfl)
  rw [lg_entry_eq]
  generalize (lg_sl ([.ref h0]) ++ List.replicate (1 - (lg_sl ([.ref h0])).length) Slot.unset).toArray = ls at hl ⊢
  have hl : lv_has ls 1 [(0, .ref h0)] := hl
  refine lv_aload_n hx hb dX3_init_0 rfl (lv_at hl 0 rfl) ?_
  refine W.objInit hx hb hown (hts _ tw_288) (hts _ tw_101) (hts _ tw_102) rfl (by rw [hml]; exact hl.1) rfl dX3_init_1 (Nat.le_of_ble_eq_true rfl) (Nat.le_of_ble_eq_true rfl) ?_
  refine W.eq (g2 := F0 m 4 ls []) rfl ?_
  refine lv_aload_n hx hb dX3_init_4 rfl (lv_at hl 0 rfl) ?_
  refine lv_bipush (v := 24) hx hb dX3_init_5 (by decide) ?_
  refine nwa (atype := .int) (t0 := 1) (a0 := (24, .inl (fun _ => 0))) hx hb (hts _ tw_164) rfl rfl hK hP hD hS hA (fun _ => rfl) (by decide) (N' := 24) (by decide) (by decide) (Nat.le_of_ble_eq_true rfl) (Nat.le_of_ble_eq_true rfl) dX3_init_7 (fun q_1 H hP hD hS => ?_)
  refine W.widen (k := 1) (n := 24) (by decide) (by decide) ?_
  have hQ9 := pd_mk [(h0, .inr (3, [.null, .null, .int 0, .int 0, .int 0])), (aI k q_1 24 (fun _ => 0))] hP hD
  clear hP hD
  obtain ⟨hP, hD⟩ := hQ9
  refine va_putF (D := D) (ci := 3) (v := .ref q_1) (ty := (.array .int)) (C := RX3) (T := TX3) (N := 5) hx hb hts inX3 tyX3 tyX3_ok nmX3 hown hK hP hD hS 0 rfl rfl 0 (by decide) (hts _ tw_289) (fun _ h9 => h9) rfl hin rfl (by decide +kernel) rfl rfl (Nat.le_of_ble_eq_true rfl) dX3_init_9 (fun H locs hP hD hS => ?_)
  have hQ9 := pd_mk [(h0, .inr (3, [.ref q_1, .null, .int 0, .int 0, .int 0])), (aI k q_1 24 (fun _ => 0))] hP hD
  clear hP hD
  obtain ⟨hP, hD⟩ := hQ9
  refine lv_aload_n hx hb dX3_init_12 rfl (lv_at hl 0 rfl) ?_
  refine lv_bipush (v := 24) hx hb dX3_init_13 (by decide) ?_
  refine nwa (atype := .int) (t0 := 1) (a0 := (24, .inl (fun _ => 0))) hx hb (hts _ tw_164) rfl rfl hK hP hD hS hA (fun _ => rfl) (by decide) (N' := 24) (by decide) (by decide) (Nat.le_of_ble_eq_true rfl) (Nat.le_of_ble_eq_true rfl) dX3_init_15 (fun q_2 H hP hD hS => ?_)
  refine W.widen (k := 2) (n := 48) (by decide) (by decide) ?_
  have hQ9 := pd_mk [(h0, .inr (3, [.ref q_1, .null, .int 0, .int 0, .int 0])), (aI k q_1 24 (fun _ => 0)), (aI k q_2 24 (fun _ => 0))] hP hD
  clear hP hD
  obtain ⟨hP, hD⟩ := hQ9
  refine va_putF (D := D) (ci := 3) (v := .ref q_2) (ty := (.array .int)) (C := RX3) (T := TX3) (N := 5) hx hb hts inX3 tyX3 tyX3_ok nmX3 hown hK hP hD hS 0 rfl rfl 1 (by decide) (hts _ tw_290) (fun _ h9 => h9) rfl hin rfl (by decide +kernel) rfl rfl (Nat.le_of_ble_eq_true rfl) dX3_init_17 (fun H locs hP hD hS => ?_)
  have hQ9 := pd_mk [(h0, .inr (3, (fX3 q_1 q_2 0 0 0))), (aI k q_1 24 (fun _ => 0)), (aI k q_2 24 (fun _ => 0))] hP hD
  clear hP hD
  obtain ⟨hP, hD⟩ := hQ9
  refine lv_aload_n hx hb dX3_init_20 rfl (lv_at hl 0 rfl) ?_
  refine lv_iconst (v := 0) hx hb dX3_init_21 (by decide) ?_
  refine va_put (D := D) (ci := 3) (v := .int 0) (ty := .int) (C := RX3) (T := TX3) (N := 5) hx hb hts inX3 tyX3 tyX3_ok nmX3 hown hK hP hD hS 0 rfl rfl 2 (by decide) (hts _ tw_291) (fun _ h9 => h9) rfl (by decide +kernel) rfl rfl (Nat.le_of_ble_eq_true rfl) dX3_init_22 (fun H locs hP hD hS => ?_)
  have hQ9 := pd_mk [(h0, .inr (3, (fX3 q_1 q_2 0 0 0))), (aI k q_1 24 (fun _ => 0)), (aI k q_2 24 (fun _ => 0))] hP hD
  clear hP hD
  obtain ⟨hP, hD⟩ := hQ9
  refine lv_aload_n hx hb dX3_init_25 rfl (lv_at hl 0 rfl) ?_
  refine lv_iconst (v := 0) hx hb dX3_init_26 (by decide) ?_
  refine va_put (D := D) (ci := 3) (v := .int 0) (ty := .int) (C := RX3) (T := TX3) (N := 5) hx hb hts inX3 tyX3 tyX3_ok nmX3 hown hK hP hD hS 0 rfl rfl 3 (by decide) (hts _ tw_292) (fun _ h9 => h9) rfl (by decide +kernel) rfl rfl (Nat.le_of_ble_eq_true rfl) dX3_init_27 (fun H locs hP hD hS => ?_)
  have hQ9 := pd_mk [(h0, .inr (3, (fX3 q_1 q_2 0 0 0))), (aI k q_1 24 (fun _ => 0)), (aI k q_2 24 (fun _ => 0))] hP hD
  clear hP hD
  obtain ⟨hP, hD⟩ := hQ9
  refine lv_aload_n hx hb dX3_init_30 rfl (lv_at hl 0 rfl) ?_
  refine lv_iconst (v := 0) hx hb dX3_init_31 (by decide) ?_
  refine va_put (D := D) (ci := 3) (v := .int 0) (ty := .int) (C := RX3) (T := TX3) (N := 5) hx hb hts inX3 tyX3 tyX3_ok nmX3 hown hK hP hD hS 0 rfl rfl 4 (by decide) (hts _ tw_293) (fun _ h9 => h9) rfl (by decide +kernel) rfl rfl (Nat.le_of_ble_eq_true rfl) dX3_init_32 (fun H locs hP hD hS => ?_)
  have hQ9 := pd_mk [(h0, .inr (3, (fX3 q_1 q_2 0 0 0))), (aI k q_1 24 (fun _ => 0)), (aI k q_2 24 (fun _ => 0))] hP hD
  clear hP hD
  obtain ⟨hP, hD⟩ := hQ9
  obtain ⟨hP9, hD9⟩ := pd_sub [(h0, .inr (3, (fX3 q_1 q_2 0 0 0))), (aI k q_1 24 (fun _ => 0)), (aI k q_2 24 (fun _ => 0))] [0, 1, 2] hP hD (by decide) rfl
  refine W.widen (k := 2) (n := 48) (by decide) (by decide) ?_
  exact W.vret hx hb hr (fun t ht hW => ⟨⟨(q_1, q_2), rfl, trivial, by rw [ht]; exact hP9, hD9⟩, hS.F ht⟩) hS.2.2 dX3_init_35

theorem dX4_init_0 : decode cX4_init 0 = .ok (.aload_n 0, 1) := by decide +kernel
theorem dX4_init_1 : decode cX4_init 1 = .ok (.invokespecial 3, 3) := by decide +kernel
theorem dX4_init_4 : decode cX4_init 4 = .ok (.aload_n 0, 1) := by decide +kernel
theorem dX4_init_5 : decode cX4_init 5 = .ok (.iconst 4, 1) := by decide +kernel
theorem dX4_init_6 : decode cX4_init 6 = .ok (.newarray .int, 2) := by decide +kernel
theorem dX4_init_8 : decode cX4_init 8 = .ok (.putfield 9, 3) := by decide +kernel
theorem dX4_init_11 : decode cX4_init 11 = .ok (.aload_n 0, 1) := by decide +kernel
theorem dX4_init_12 : decode cX4_init 12 = .ok (.iconst 4, 1) := by decide +kernel
theorem dX4_init_13 : decode cX4_init 13 = .ok (.newarray .int, 2) := by decide +kernel
theorem dX4_init_15 : decode cX4_init 15 = .ok (.putfield 15, 3) := by decide +kernel
theorem dX4_init_18 : decode cX4_init 18 = .ok (.aload_n 0, 1) := by decide +kernel
theorem dX4_init_19 : decode cX4_init 19 = .ok (.iconst 0, 1) := by decide +kernel
theorem dX4_init_20 : decode cX4_init 20 = .ok (.putfield 18, 3) := by decide +kernel
theorem dX4_init_23 : decode cX4_init 23 = .ok (.aload_n 0, 1) := by decide +kernel
theorem dX4_init_24 : decode cX4_init 24 = .ok (.iconst 0, 1) := by decide +kernel
theorem dX4_init_25 : decode cX4_init 25 = .ok (.putfield 22, 3) := by decide +kernel
theorem dX4_init_28 : decode cX4_init 28 = .ok (.aload_n 0, 1) := by decide +kernel
theorem dX4_init_29 : decode cX4_init 29 = .ok (.iconst 0, 1) := by decide +kernel
theorem dX4_init_30 : decode cX4_init 30 = .ok (.putfield 25, 3) := by decide +kernel
theorem dX4_init_33 : decode cX4_init 33 = .ok (.aload_n 0, 1) := by decide +kernel
theorem dX4_init_34 : decode cX4_init 34 = .ok (.iconst 0, 1) := by decide +kernel
theorem dX4_init_35 : decode cX4_init 35 = .ok (.putfield 28, 3) := by decide +kernel
theorem dX4_init_38 : decode cX4_init 38 = .ok (.return_, 1) := by decide +kernel
set_option maxHeartbeats 4000000 in
set_option maxRecDepth 100000 in
theorem x_Scene_init (l : Launch) (D : va_G) (k : Nat → ClassId) (st : Nat → Nat) (lo : Nat) (h0 : Nat)  : CWv l D k st lo yX4_init cX4_init 1 none ({ frames := 1, cells := 2, slots := 8, locals := 12 }) 2 8 [.ref h0] [(h0, .inr (4, [.null, .null, .int 0, .int 0, .int 0, .int 0]))] (fun (_ : Nat × Nat) => True) (fun (u : Nat × Nat) => match u with | (q0, q1) => [(h0, .inr (4, (fX4 q0 q1 0 0 0 0))), (aI k q0 4 (fun _ => 0)), (aI k q1 4 (fun _ => 0))]) := by
  intro sz
  refine Met.ofW (cc := cX4_init) (maxL := 1) (ret := none) (by decide) rfl ?_
  intro p e s m args below meth c s₁ B hml hv
  obtain ⟨rfl, hsz, hlo, hP, hK, hDL, hZ⟩ := hv
  have hx := B.exec
  have hb := B.bytes
  have hr := B.returns
  have hts := WS_ts B.pre
  have hown : s.vm.findClass RX4 = some m.cls := findClass_of_methodNamed B.named
  have hlocks := B.notSynchronized
  have hin : meth.name = "<init>" := (name_of_methodNamed B.named B.method).1
  subst hsz
  have hD := hDL.self (sz := s.heap.size)
  have hAlo := A_lo hDL hlo
  generalize hAe : va_A [(h0, .inr (4, [.null, .null, .int 0, .int 0, .int 0, .int 0]))] s.heap.size = A at hD hAlo ⊢
  have hA : ∀ q : Nat, s.heap.size ≤ q → A q := fun q h => by rw [← hAe]; exact Or.inr h
  have hS : va_S A s.heap s.heap [] := va_S.rf
  have hl := lv_entry ([.ref h0]) (n := 1) (Nat.le_of_ble_eq_true rfl)
  rw [lg_entry_eq]
  generalize (lg_sl ([.ref h0]) ++ List.replicate (1 - (lg_sl ([.ref h0])).length) Slot.unset).toArray = ls at hl ⊢
  have hl : lv_has ls 1 [(0, .ref h0)] := hl
  refine lv_aload_n hx hb dX4_init_0 rfl (lv_at hl 0 rfl) ?_
  refine W.objInit hx hb hown (hts _ tw_172) (hts _ tw_101) (hts _ tw_102) rfl (by rw [hml]; exact hl.1) rfl dX4_init_1 (Nat.le_of_ble_eq_true rfl) (Nat.le_of_ble_eq_true rfl) ?_
  refine W.eq (g2 := F0 m 4 ls []) rfl ?_
  refine lv_aload_n hx hb dX4_init_4 rfl (lv_at hl 0 rfl) ?_
  refine lv_iconst (v := 4) hx hb dX4_init_5 (by decide) ?_
  refine nwa (atype := .int) (t0 := 1) (a0 := (4, .inl (fun _ => 0))) hx hb (hts _ tw_164) rfl rfl hK hP hD hS hA (fun _ => rfl) (by decide) (N' := 4) (by decide) (by decide) (Nat.le_of_ble_eq_true rfl) (Nat.le_of_ble_eq_true rfl) dX4_init_6 (fun q_1 H hP hD hS => ?_)
  refine W.widen (k := 1) (n := 4) (by decide) (by decide) ?_
  have hQ9 := pd_mk [(h0, .inr (4, [.null, .null, .int 0, .int 0, .int 0, .int 0])), (aI k q_1 4 (fun _ => 0))] hP hD
  clear hP hD
  obtain ⟨hP, hD⟩ := hQ9
  refine va_putF (D := D) (ci := 4) (v := .ref q_1) (ty := (.array .int)) (C := RX4) (T := TX4) (N := 6) hx hb hts inX4 tyX4 tyX4_ok nmX4 hown hK hP hD hS 0 rfl rfl 0 (by decide) (hts _ tw_173) (fun _ h9 => h9) rfl hin rfl (by decide +kernel) rfl rfl (Nat.le_of_ble_eq_true rfl) dX4_init_8 (fun H locs hP hD hS => ?_)
  have hQ9 := pd_mk [(h0, .inr (4, [.ref q_1, .null, .int 0, .int 0, .int 0, .int 0])), (aI k q_1 4 (fun _ => 0))] hP hD
  clear hP hD
  obtain ⟨hP, hD⟩ := hQ9
  refine lv_aload_n hx hb dX4_init_11 rfl (lv_at hl 0 rfl) ?_
  refine lv_iconst (v := 4) hx hb dX4_init_12 (by decide) ?_
  refine nwa (atype := .int) (t0 := 1) (a0 := (4, .inl (fun _ => 0))) hx hb (hts _ tw_164) rfl rfl hK hP hD hS hA (fun _ => rfl) (by decide) (N' := 4) (by decide) (by decide) (Nat.le_of_ble_eq_true rfl) (Nat.le_of_ble_eq_true rfl) dX4_init_13 (fun q_2 H hP hD hS => ?_)
  refine W.widen (k := 2) (n := 8) (by decide) (by decide) ?_
  have hQ9 := pd_mk [(h0, .inr (4, [.ref q_1, .null, .int 0, .int 0, .int 0, .int 0])), (aI k q_1 4 (fun _ => 0)), (aI k q_2 4 (fun _ => 0))] hP hD
  clear hP hD
  obtain ⟨hP, hD⟩ := hQ9
  refine va_putF (D := D) (ci := 4) (v := .ref q_2) (ty := (.array .int)) (C := RX4) (T := TX4) (N := 6) hx hb hts inX4 tyX4 tyX4_ok nmX4 hown hK hP hD hS 0 rfl rfl 1 (by decide) (hts _ tw_175) (fun _ h9 => h9) rfl hin rfl (by decide +kernel) rfl rfl (Nat.le_of_ble_eq_true rfl) dX4_init_15 (fun H locs hP hD hS => ?_)
  have hQ9 := pd_mk [(h0, .inr (4, (fX4 q_1 q_2 0 0 0 0))), (aI k q_1 4 (fun _ => 0)), (aI k q_2 4 (fun _ => 0))] hP hD
  clear hP hD
  obtain ⟨hP, hD⟩ := hQ9
  refine lv_aload_n hx hb dX4_init_18 rfl (lv_at hl 0 rfl) ?_
  refine lv_iconst (v := 0) hx hb dX4_init_19 (by decide) ?_
  refine va_put (D := D) (ci := 4) (v := .int 0) (ty := .int) (C := RX4) (T := TX4) (N := 6) hx hb hts inX4 tyX4 tyX4_ok nmX4 hown hK hP hD hS 0 rfl rfl 2 (by decide) (hts _ tw_178) (fun _ h9 => h9) rfl (by decide +kernel) rfl rfl (Nat.le_of_ble_eq_true rfl) dX4_init_20 (fun H locs hP hD hS => ?_)
  have hQ9 := pd_mk [(h0, .inr (4, (fX4 q_1 q_2 0 0 0 0))), (aI k q_1 4 (fun _ => 0)), (aI k q_2 4 (fun _ => 0))] hP hD
  clear hP hD
  obtain ⟨hP, hD⟩ := hQ9
  refine lv_aload_n hx hb dX4_init_23 rfl (lv_at hl 0 rfl) ?_
  refine lv_iconst (v := 0) hx hb dX4_init_24 (by decide) ?_
  refine va_put (D := D) (ci := 4) (v := .int 0) (ty := .int) (C := RX4) (T := TX4) (N := 6) hx hb hts inX4 tyX4 tyX4_ok nmX4 hown hK hP hD hS 0 rfl rfl 3 (by decide) (hts _ tw_181) (fun _ h9 => h9) rfl (by decide +kernel) rfl rfl (Nat.le_of_ble_eq_true rfl) dX4_init_25 (fun H locs hP hD hS => ?_)
  have hQ9 := pd_mk [(h0, .inr (4, (fX4 q_1 q_2 0 0 0 0))), (aI k q_1 4 (fun _ => 0)), (aI k q_2 4 (fun _ => 0))] hP hD
  clear hP hD
  obtain ⟨hP, hD⟩ := hQ9
  refine lv_aload_n hx hb dX4_init_28 rfl (lv_at hl 0 rfl) ?_
  refine lv_iconst (v := 0) hx hb dX4_init_29 (by decide) ?_
  refine va_put (D := D) (ci := 4) (v := .int 0) (ty := .int) (C := RX4) (T := TX4) (N := 6) hx hb hts inX4 tyX4 tyX4_ok nmX4 hown hK hP hD hS 0 rfl rfl 4 (by decide) (hts _ tw_185) (fun _ h9 => h9) rfl (by decide +kernel) rfl rfl (Nat.le_of_ble_eq_true rfl) dX4_init_30 (fun H locs hP hD hS => ?_)
  have hQ9 := pd_mk [(h0, .inr (4, (fX4 q_1 q_2 0 0 0 0))), (aI k q_1 4 (fun _ => 0)), (aI k q_2 4 (fun _ => 0))] hP hD
  clear hP hD
  obtain ⟨hP, hD⟩ := hQ9
  refine lv_aload_n hx hb dX4_init_33 rfl (lv_at hl 0 rfl) ?_
  refine lv_iconst (v := 0) hx hb dX4_init_34 (by decide) ?_
  refine va_put (D := D) (ci := 4) (v := .int 0) (ty := .int) (C := RX4) (T := TX4) (N := 6) hx hb hts inX4 tyX4 tyX4_ok nmX4 hown hK hP hD hS 0 rfl rfl 5 (by decide) (hts _ tw_188) (fun _ h9 => h9) rfl (by decide +kernel) rfl rfl (Nat.le_of_ble_eq_true rfl) dX4_init_35 (fun H locs hP hD hS => ?_)
  have hQ9 := pd_mk [(h0, .inr (4, (fX4 q_1 q_2 0 0 0 0))), (aI k q_1 4 (fun _ => 0)), (aI k q_2 4 (fun _ => 0))] hP hD
  clear hP hD
  obtain ⟨hP, hD⟩ := hQ9
  obtain ⟨hP9, hD9⟩ := pd_sub [(h0, .inr (4, (fX4 q_1 q_2 0 0 0 0))), (aI k q_1 4 (fun _ => 0)), (aI k q_2 4 (fun _ => 0))] [0, 1, 2] hP hD (by decide) rfl
  refine W.widen (k := 2) (n := 8) (by decide) (by decide) ?_
  exact W.vret hx hb hr (fun t ht hW => ⟨⟨(q_1, q_2), rfl, trivial, by rw [ht]; exact hP9, hD9⟩, hS.F ht⟩) hS.2.2 dX4_init_38

theorem dX2_init_0 : decode cX2_init 0 = .ok (.aload_n 0, 1) := by decide +kernel
theorem dX2_init_1 : decode cX2_init 1 = .ok (.invokespecial 3, 3) := by decide +kernel
theorem dX2_init_4 : decode cX2_init 4 = .ok (.aload_n 0, 1) := by decide +kernel
theorem dX2_init_5 : decode cX2_init 5 = .ok (.bipush 25, 2) := by decide +kernel
theorem dX2_init_7 : decode cX2_init 7 = .ok (.newarray .int, 2) := by decide +kernel
theorem dX2_init_9 : decode cX2_init 9 = .ok (.putfield 9, 3) := by decide +kernel
theorem dX2_init_12 : decode cX2_init 12 = .ok (.aload_n 0, 1) := by decide +kernel
theorem dX2_init_13 : decode cX2_init 13 = .ok (.bipush 25, 2) := by decide +kernel
theorem dX2_init_15 : decode cX2_init 15 = .ok (.newarray .int, 2) := by decide +kernel
theorem dX2_init_17 : decode cX2_init 17 = .ok (.putfield 15, 3) := by decide +kernel
theorem dX2_init_20 : decode cX2_init 20 = .ok (.aload_n 0, 1) := by decide +kernel
theorem dX2_init_21 : decode cX2_init 21 = .ok (.bipush 25, 2) := by decide +kernel
theorem dX2_init_23 : decode cX2_init 23 = .ok (.newarray .int, 2) := by decide +kernel
theorem dX2_init_25 : decode cX2_init 25 = .ok (.putfield 18, 3) := by decide +kernel
theorem dX2_init_28 : decode cX2_init 28 = .ok (.aload_n 0, 1) := by decide +kernel
theorem dX2_init_29 : decode cX2_init 29 = .ok (.iconst 0, 1) := by decide +kernel
theorem dX2_init_30 : decode cX2_init 30 = .ok (.putfield 21, 3) := by decide +kernel
theorem dX2_init_33 : decode cX2_init 33 = .ok (.aload_n 0, 1) := by decide +kernel
theorem dX2_init_34 : decode cX2_init 34 = .ok (.iconst 0, 1) := by decide +kernel
theorem dX2_init_35 : decode cX2_init 35 = .ok (.putfield 25, 3) := by decide +kernel
theorem dX2_init_38 : decode cX2_init 38 = .ok (.return_, 1) := by decide +kernel
set_option maxHeartbeats 4000000 in
set_option maxRecDepth 100000 in
theorem x_Reckoner_init (l : Launch) (D : va_G) (k : Nat → ClassId) (st : Nat → Nat) (lo : Nat) (h0 : Nat)  : CWv l D k st lo yX2_init cX2_init 1 none ({ frames := 1, cells := 3, slots := 75, locals := 12 }) 3 75 [.ref h0] [(h0, .inr (2, [.null, .null, .null, .int 0, .int 0]))] (fun (_ : Nat × Nat × Nat) => True) (fun (u : Nat × Nat × Nat) => match u with | (q0, q1, q2) => [(h0, .inr (2, (fX2 q0 q1 q2 0 0))), (aI k q0 25 (fun _ => 0)), (aI k q1 25 (fun _ => 0)), (aI k q2 25 (fun _ => 0))]) := by
  intro sz
  refine Met.ofW (cc := cX2_init) (maxL := 1) (ret := none) (by decide) rfl ?_
  intro p e s m args below meth c s₁ B hml hv
  obtain ⟨rfl, hsz, hlo, hP, hK, hDL, hZ⟩ := hv
  have hx := B.exec
  have hb := B.bytes
  have hr := B.returns
  have hts := WS_ts B.pre
  have hown : s.vm.findClass RX2 = some m.cls := findClass_of_methodNamed B.named
  have hlocks := B.notSynchronized
  have hin : meth.name = "<init>" := (name_of_methodNamed B.named B.method).1
  subst hsz
  have hD := hDL.self (sz := s.heap.size)
  have hAlo := A_lo hDL hlo
  generalize hAe : va_A [(h0, .inr (2, [.null, .null, .null, .int 0, .int 0]))] s.heap.size = A at hD hAlo ⊢
  have hA : ∀ q : Nat, s.heap.size ≤ q → A q := fun q h => by rw [← hAe]; exact Or.inr h
  have hS : va_S A s.heap s.heap [] := va_S.rf
  have hl := lv_entry ([.ref h0]) (n := 1) (Nat.le_of_ble_eq_true rfl)
  rw [lg_entry_eq]
  generalize (lg_sl ([.ref h0]) ++ List.replicate (1 - (lg_sl ([.ref h0])).length) Slot.unset).toArray = ls at hl ⊢
  have hl : lv_has ls 1 [(0, .ref h0)] := hl
  refine lv_aload_n hx hb dX2_init_0 rfl (lv_at hl 0 rfl) ?_
  refine W.objInit hx hb hown (hts _ tw_209) (hts _ tw_101) (hts _ tw_102) rfl (by rw [hml]; exact hl.1) rfl dX2_init_1 (Nat.le_of_ble_eq_true rfl) (Nat.le_of_ble_eq_true rfl) ?_
  refine W.eq (g2 := F0 m 4 ls []) rfl ?_
  refine lv_aload_n hx hb dX2_init_4 rfl (lv_at hl 0 rfl) ?_
  refine lv_bipush (v := 25) hx hb dX2_init_5 (by decide) ?_
  refine nwa (atype := .int) (t0 := 1) (a0 := (25, .inl (fun _ => 0))) hx hb (hts _ tw_164) rfl rfl hK hP hD hS hA (fun _ => rfl) (by decide) (N' := 25) (by decide) (by decide) (Nat.le_of_ble_eq_true rfl) (Nat.le_of_ble_eq_true rfl) dX2_init_7 (fun q_1 H hP hD hS => ?_)
  refine W.widen (k := 1) (n := 25) (by decide) (by decide) ?_
  have hQ9 := pd_mk [(h0, .inr (2, [.null, .null, .null, .int 0, .int 0])), (aI k q_1 25 (fun _ => 0))] hP hD
  clear hP hD
  obtain ⟨hP, hD⟩ := hQ9
  refine va_putF (D := D) (ci := 2) (v := .ref q_1) (ty := (.array .int)) (C := RX2) (T := TX2) (N := 5) hx hb hts inX2 tyX2 tyX2_ok nmX2 hown hK hP hD hS 0 rfl rfl 0 (by decide) (hts _ tw_210) (fun _ h9 => h9) rfl hin rfl (by decide +kernel) rfl rfl (Nat.le_of_ble_eq_true rfl) dX2_init_9 (fun H locs hP hD hS => ?_)
  have hQ9 := pd_mk [(h0, .inr (2, [.ref q_1, .null, .null, .int 0, .int 0])), (aI k q_1 25 (fun _ => 0))] hP hD
  clear hP hD
  obtain ⟨hP, hD⟩ := hQ9
  refine lv_aload_n hx hb dX2_init_12 rfl (lv_at hl 0 rfl) ?_
  refine lv_bipush (v := 25) hx hb dX2_init_13 (by decide) ?_
  refine nwa (atype := .int) (t0 := 1) (a0 := (25, .inl (fun _ => 0))) hx hb (hts _ tw_164) rfl rfl hK hP hD hS hA (fun _ => rfl) (by decide) (N' := 25) (by decide) (by decide) (Nat.le_of_ble_eq_true rfl) (Nat.le_of_ble_eq_true rfl) dX2_init_15 (fun q_2 H hP hD hS => ?_)
  refine W.widen (k := 2) (n := 50) (by decide) (by decide) ?_
  have hQ9 := pd_mk [(h0, .inr (2, [.ref q_1, .null, .null, .int 0, .int 0])), (aI k q_1 25 (fun _ => 0)), (aI k q_2 25 (fun _ => 0))] hP hD
  clear hP hD
  obtain ⟨hP, hD⟩ := hQ9
  refine va_putF (D := D) (ci := 2) (v := .ref q_2) (ty := (.array .int)) (C := RX2) (T := TX2) (N := 5) hx hb hts inX2 tyX2 tyX2_ok nmX2 hown hK hP hD hS 0 rfl rfl 1 (by decide) (hts _ tw_211) (fun _ h9 => h9) rfl hin rfl (by decide +kernel) rfl rfl (Nat.le_of_ble_eq_true rfl) dX2_init_17 (fun H locs hP hD hS => ?_)
  have hQ9 := pd_mk [(h0, .inr (2, [.ref q_1, .ref q_2, .null, .int 0, .int 0])), (aI k q_1 25 (fun _ => 0)), (aI k q_2 25 (fun _ => 0))] hP hD
  clear hP hD
  obtain ⟨hP, hD⟩ := hQ9
  refine lv_aload_n hx hb dX2_init_20 rfl (lv_at hl 0 rfl) ?_
  refine lv_bipush (v := 25) hx hb dX2_init_21 (by decide) ?_
  refine nwa (atype := .int) (t0 := 1) (a0 := (25, .inl (fun _ => 0))) hx hb (hts _ tw_164) rfl rfl hK hP hD hS hA (fun _ => rfl) (by decide) (N' := 25) (by decide) (by decide) (Nat.le_of_ble_eq_true rfl) (Nat.le_of_ble_eq_true rfl) dX2_init_23 (fun q_3 H hP hD hS => ?_)
  refine W.widen (k := 3) (n := 75) (by decide) (by decide) ?_
  have hQ9 := pd_mk [(h0, .inr (2, [.ref q_1, .ref q_2, .null, .int 0, .int 0])), (aI k q_1 25 (fun _ => 0)), (aI k q_2 25 (fun _ => 0)), (aI k q_3 25 (fun _ => 0))] hP hD
  clear hP hD
  obtain ⟨hP, hD⟩ := hQ9
  refine va_putF (D := D) (ci := 2) (v := .ref q_3) (ty := (.array .int)) (C := RX2) (T := TX2) (N := 5) hx hb hts inX2 tyX2 tyX2_ok nmX2 hown hK hP hD hS 0 rfl rfl 2 (by decide) (hts _ tw_212) (fun _ h9 => h9) rfl hin rfl (by decide +kernel) rfl rfl (Nat.le_of_ble_eq_true rfl) dX2_init_25 (fun H locs hP hD hS => ?_)
  have hQ9 := pd_mk [(h0, .inr (2, (fX2 q_1 q_2 q_3 0 0))), (aI k q_1 25 (fun _ => 0)), (aI k q_2 25 (fun _ => 0)), (aI k q_3 25 (fun _ => 0))] hP hD
  clear hP hD
  obtain ⟨hP, hD⟩ := hQ9
  refine lv_aload_n hx hb dX2_init_28 rfl (lv_at hl 0 rfl) ?_
  refine lv_iconst (v := 0) hx hb dX2_init_29 (by decide) ?_
  refine va_put (D := D) (ci := 2) (v := .int 0) (ty := .int) (C := RX2) (T := TX2) (N := 5) hx hb hts inX2 tyX2 tyX2_ok nmX2 hown hK hP hD hS 0 rfl rfl 3 (by decide) (hts _ tw_213) (fun _ h9 => h9) rfl (by decide +kernel) rfl rfl (Nat.le_of_ble_eq_true rfl) dX2_init_30 (fun H locs hP hD hS => ?_)
  have hQ9 := pd_mk [(h0, .inr (2, (fX2 q_1 q_2 q_3 0 0))), (aI k q_1 25 (fun _ => 0)), (aI k q_2 25 (fun _ => 0)), (aI k q_3 25 (fun _ => 0))] hP hD
  clear hP hD
  obtain ⟨hP, hD⟩ := hQ9
  refine lv_aload_n hx hb dX2_init_33 rfl (lv_at hl 0 rfl) ?_
  refine lv_iconst (v := 0) hx hb dX2_init_34 (by decide) ?_
  refine va_put (D := D) (ci := 2) (v := .int 0) (ty := .int) (C := RX2) (T := TX2) (N := 5) hx hb hts inX2 tyX2 tyX2_ok nmX2 hown hK hP hD hS 0 rfl rfl 4 (by decide) (hts _ tw_215) (fun _ h9 => h9) rfl (by decide +kernel) rfl rfl (Nat.le_of_ble_eq_true rfl) dX2_init_35 (fun H locs hP hD hS => ?_)
  have hQ9 := pd_mk [(h0, .inr (2, (fX2 q_1 q_2 q_3 0 0))), (aI k q_1 25 (fun _ => 0)), (aI k q_2 25 (fun _ => 0)), (aI k q_3 25 (fun _ => 0))] hP hD
  clear hP hD
  obtain ⟨hP, hD⟩ := hQ9
  obtain ⟨hP9, hD9⟩ := pd_sub [(h0, .inr (2, (fX2 q_1 q_2 q_3 0 0))), (aI k q_1 25 (fun _ => 0)), (aI k q_2 25 (fun _ => 0)), (aI k q_3 25 (fun _ => 0))] [0, 1, 2, 3] hP hD (by decide) rfl
  refine W.widen (k := 3) (n := 75) (by decide) (by decide) ?_
  exact W.vret hx hb hr (fun t ht hW => ⟨⟨(q_1, q_2, q_3), rfl, trivial, by rw [ht]; exact hP9, hD9⟩, hS.F ht⟩) hS.2.2 dX2_init_38

theorem dX1_init_0 : decode cX1_init 0 = .ok (.aload_n 0, 1) := by decide +kernel
theorem dX1_init_1 : decode cX1_init 1 = .ok (.invokespecial 3, 3) := by decide +kernel
theorem dX1_init_4 : decode cX1_init 4 = .ok (.aload_n 0, 1) := by decide +kernel
theorem dX1_init_5 : decode cX1_init 5 = .ok (.iconst 4, 1) := by decide +kernel
theorem dX1_init_6 : decode cX1_init 6 = .ok (.newarray .int, 2) := by decide +kernel
theorem dX1_init_8 : decode cX1_init 8 = .ok (.putfield 9, 3) := by decide +kernel
theorem dX1_init_11 : decode cX1_init 11 = .ok (.aload_n 0, 1) := by decide +kernel
theorem dX1_init_12 : decode cX1_init 12 = .ok (.bipush 100, 2) := by decide +kernel
theorem dX1_init_14 : decode cX1_init 14 = .ok (.newarray .int, 2) := by decide +kernel
theorem dX1_init_16 : decode cX1_init 16 = .ok (.putfield 15, 3) := by decide +kernel
theorem dX1_init_19 : decode cX1_init 19 = .ok (.aload_n 0, 1) := by decide +kernel
theorem dX1_init_20 : decode cX1_init 20 = .ok (.bipush 16, 2) := by decide +kernel
theorem dX1_init_22 : decode cX1_init 22 = .ok (.newarray .int, 2) := by decide +kernel
theorem dX1_init_24 : decode cX1_init 24 = .ok (.putfield 18, 3) := by decide +kernel
theorem dX1_init_27 : decode cX1_init 27 = .ok (.aload_n 0, 1) := by decide +kernel
theorem dX1_init_28 : decode cX1_init 28 = .ok (.iconst 0, 1) := by decide +kernel
theorem dX1_init_29 : decode cX1_init 29 = .ok (.putfield 21, 3) := by decide +kernel
theorem dX1_init_32 : decode cX1_init 32 = .ok (.aload_n 0, 1) := by decide +kernel
theorem dX1_init_33 : decode cX1_init 33 = .ok (.iconst 0, 1) := by decide +kernel
theorem dX1_init_34 : decode cX1_init 34 = .ok (.putfield 25, 3) := by decide +kernel
theorem dX1_init_37 : decode cX1_init 37 = .ok (.aload_n 0, 1) := by decide +kernel
theorem dX1_init_38 : decode cX1_init 38 = .ok (.iconst 0, 1) := by decide +kernel
theorem dX1_init_39 : decode cX1_init 39 = .ok (.putfield 28, 3) := by decide +kernel
theorem dX1_init_42 : decode cX1_init 42 = .ok (.aload_n 0, 1) := by decide +kernel
theorem dX1_init_43 : decode cX1_init 43 = .ok (.iconst 0, 1) := by decide +kernel
theorem dX1_init_44 : decode cX1_init 44 = .ok (.putfield 31, 3) := by decide +kernel
theorem dX1_init_47 : decode cX1_init 47 = .ok (.aload_n 0, 1) := by decide +kernel
theorem dX1_init_48 : decode cX1_init 48 = .ok (.aload_n 1, 1) := by decide +kernel
theorem dX1_init_49 : decode cX1_init 49 = .ok (.putfield 34, 3) := by decide +kernel
theorem dX1_init_52 : decode cX1_init 52 = .ok (.return_, 1) := by decide +kernel
set_option maxHeartbeats 4000000 in
set_option maxRecDepth 100000 in
theorem x_Parking_init (l : Launch) (D : va_G) (k : Nat → ClassId) (st : Nat → Nat) (lo : Nat) (h0 : Nat) (s0 : Nat)  : CWv l D k st lo yX1_init cX1_init 2 none ({ frames := 1, cells := 3, slots := 120, locals := 12 }) 3 120 [.ref h0, .ref s0] [(h0, .inr (1, [.null, .null, .null, .null, .int 0, .int 0, .int 0, .int 0]))] (fun (_ : Nat × Nat × Nat) => True) (fun (u : Nat × Nat × Nat) => match u with | (q0, q1, q2) => [(h0, .inr (1, (fX1 s0 q0 q1 q2 0 0 0 0))), (aI k q0 4 (fun _ => 0)), (aI k q1 100 (fun _ => 0)), (aI k q2 16 (fun _ => 0))]) := by
  intro sz
  refine Met.ofW (cc := cX1_init) (maxL := 2) (ret := none) (by decide) rfl ?_
  intro p e s m args below meth c s₁ B hml hv
  obtain ⟨rfl, hsz, hlo, hP, hK, hDL, hZ⟩ := hv
  have hx := B.exec
  have hb := B.bytes
  have hr := B.returns
  have hts := WS_ts B.pre
  have hown : s.vm.findClass RX1 = some m.cls := findClass_of_methodNamed B.named
  have hlocks := B.notSynchronized
  have hin : meth.name = "<init>" := (name_of_methodNamed B.named B.method).1
  subst hsz
  have hD := hDL.self (sz := s.heap.size)
  have hAlo := A_lo hDL hlo
  generalize hAe : va_A [(h0, .inr (1, [.null, .null, .null, .null, .int 0, .int 0, .int 0, .int 0]))] s.heap.size = A at hD hAlo ⊢
  have hA : ∀ q : Nat, s.heap.size ≤ q → A q := fun q h => by rw [← hAe]; exact Or.inr h
  have hS : va_S A s.heap s.heap [] := va_S.rf
  have hl := lv_entry ([.ref h0, .ref s0]) (n := 2) (Nat.le_of_ble_eq_true rfl)
  rw [lg_entry_eq]
  generalize (lg_sl ([.ref h0, .ref s0]) ++ List.replicate (2 - (lg_sl ([.ref h0, .ref s0])).length) Slot.unset).toArray = ls at hl ⊢
  have hl : lv_has ls 2 [(0, .ref h0), (1, .ref s0)] := hl
  refine lv_aload_n hx hb dX1_init_0 rfl (lv_at hl 0 rfl) ?_
  refine W.objInit hx hb hown (hts _ tw_234) (hts _ tw_101) (hts _ tw_102) rfl (by rw [hml]; exact hl.1) rfl dX1_init_1 (Nat.le_of_ble_eq_true rfl) (Nat.le_of_ble_eq_true rfl) ?_
  refine W.eq (g2 := F0 m 4 ls []) rfl ?_
  refine lv_aload_n hx hb dX1_init_4 rfl (lv_at hl 0 rfl) ?_
  refine lv_iconst (v := 4) hx hb dX1_init_5 (by decide) ?_
  refine nwa (atype := .int) (t0 := 1) (a0 := (4, .inl (fun _ => 0))) hx hb (hts _ tw_164) rfl rfl hK hP hD hS hA (fun _ => rfl) (by decide) (N' := 4) (by decide) (by decide) (Nat.le_of_ble_eq_true rfl) (Nat.le_of_ble_eq_true rfl) dX1_init_6 (fun q_1 H hP hD hS => ?_)
  refine W.widen (k := 1) (n := 4) (by decide) (by decide) ?_
  have hQ9 := pd_mk [(h0, .inr (1, [.null, .null, .null, .null, .int 0, .int 0, .int 0, .int 0])), (aI k q_1 4 (fun _ => 0))] hP hD
  clear hP hD
  obtain ⟨hP, hD⟩ := hQ9
  refine va_putF (D := D) (ci := 1) (v := .ref q_1) (ty := (.array .int)) (C := RX1) (T := TX1) (N := 8) hx hb hts inX1 tyX1 tyX1_ok nmX1 hown hK hP hD hS 0 rfl rfl 1 (by decide) (hts _ tw_236) (fun _ h9 => h9) rfl hin rfl (by decide +kernel) rfl rfl (Nat.le_of_ble_eq_true rfl) dX1_init_8 (fun H locs hP hD hS => ?_)
  have hQ9 := pd_mk [(h0, .inr (1, [.null, .ref q_1, .null, .null, .int 0, .int 0, .int 0, .int 0])), (aI k q_1 4 (fun _ => 0))] hP hD
  clear hP hD
  obtain ⟨hP, hD⟩ := hQ9
  refine lv_aload_n hx hb dX1_init_11 rfl (lv_at hl 0 rfl) ?_
  refine lv_bipush (v := 100) hx hb dX1_init_12 (by decide) ?_
  refine nwa (atype := .int) (t0 := 1) (a0 := (100, .inl (fun _ => 0))) hx hb (hts _ tw_164) rfl rfl hK hP hD hS hA (fun _ => rfl) (by decide) (N' := 100) (by decide) (by decide) (Nat.le_of_ble_eq_true rfl) (Nat.le_of_ble_eq_true rfl) dX1_init_14 (fun q_2 H hP hD hS => ?_)
  refine W.widen (k := 2) (n := 104) (by decide) (by decide) ?_
  have hQ9 := pd_mk [(h0, .inr (1, [.null, .ref q_1, .null, .null, .int 0, .int 0, .int 0, .int 0])), (aI k q_1 4 (fun _ => 0)), (aI k q_2 100 (fun _ => 0))] hP hD
  clear hP hD
  obtain ⟨hP, hD⟩ := hQ9
  refine va_putF (D := D) (ci := 1) (v := .ref q_2) (ty := (.array .int)) (C := RX1) (T := TX1) (N := 8) hx hb hts inX1 tyX1 tyX1_ok nmX1 hown hK hP hD hS 0 rfl rfl 2 (by decide) (hts _ tw_238) (fun _ h9 => h9) rfl hin rfl (by decide +kernel) rfl rfl (Nat.le_of_ble_eq_true rfl) dX1_init_16 (fun H locs hP hD hS => ?_)
  have hQ9 := pd_mk [(h0, .inr (1, [.null, .ref q_1, .ref q_2, .null, .int 0, .int 0, .int 0, .int 0])), (aI k q_1 4 (fun _ => 0)), (aI k q_2 100 (fun _ => 0))] hP hD
  clear hP hD
  obtain ⟨hP, hD⟩ := hQ9
  refine lv_aload_n hx hb dX1_init_19 rfl (lv_at hl 0 rfl) ?_
  refine lv_bipush (v := 16) hx hb dX1_init_20 (by decide) ?_
  refine nwa (atype := .int) (t0 := 1) (a0 := (16, .inl (fun _ => 0))) hx hb (hts _ tw_164) rfl rfl hK hP hD hS hA (fun _ => rfl) (by decide) (N' := 16) (by decide) (by decide) (Nat.le_of_ble_eq_true rfl) (Nat.le_of_ble_eq_true rfl) dX1_init_22 (fun q_3 H hP hD hS => ?_)
  refine W.widen (k := 3) (n := 120) (by decide) (by decide) ?_
  have hQ9 := pd_mk [(h0, .inr (1, [.null, .ref q_1, .ref q_2, .null, .int 0, .int 0, .int 0, .int 0])), (aI k q_1 4 (fun _ => 0)), (aI k q_2 100 (fun _ => 0)), (aI k q_3 16 (fun _ => 0))] hP hD
  clear hP hD
  obtain ⟨hP, hD⟩ := hQ9
  refine va_putF (D := D) (ci := 1) (v := .ref q_3) (ty := (.array .int)) (C := RX1) (T := TX1) (N := 8) hx hb hts inX1 tyX1 tyX1_ok nmX1 hown hK hP hD hS 0 rfl rfl 3 (by decide) (hts _ tw_239) (fun _ h9 => h9) rfl hin rfl (by decide +kernel) rfl rfl (Nat.le_of_ble_eq_true rfl) dX1_init_24 (fun H locs hP hD hS => ?_)
  have hQ9 := pd_mk [(h0, .inr (1, [.null, .ref q_1, .ref q_2, .ref q_3, .int 0, .int 0, .int 0, .int 0])), (aI k q_1 4 (fun _ => 0)), (aI k q_2 100 (fun _ => 0)), (aI k q_3 16 (fun _ => 0))] hP hD
  clear hP hD
  obtain ⟨hP, hD⟩ := hQ9
  refine lv_aload_n hx hb dX1_init_27 rfl (lv_at hl 0 rfl) ?_
  refine lv_iconst (v := 0) hx hb dX1_init_28 (by decide) ?_
  refine va_put (D := D) (ci := 1) (v := .int 0) (ty := .int) (C := RX1) (T := TX1) (N := 8) hx hb hts inX1 tyX1 tyX1_ok nmX1 hown hK hP hD hS 0 rfl rfl 4 (by decide) (hts _ tw_240) (fun _ h9 => h9) rfl (by decide +kernel) rfl rfl (Nat.le_of_ble_eq_true rfl) dX1_init_29 (fun H locs hP hD hS => ?_)
  have hQ9 := pd_mk [(h0, .inr (1, [.null, .ref q_1, .ref q_2, .ref q_3, .int 0, .int 0, .int 0, .int 0])), (aI k q_1 4 (fun _ => 0)), (aI k q_2 100 (fun _ => 0)), (aI k q_3 16 (fun _ => 0))] hP hD
  clear hP hD
  obtain ⟨hP, hD⟩ := hQ9
  refine lv_aload_n hx hb dX1_init_32 rfl (lv_at hl 0 rfl) ?_
  refine lv_iconst (v := 0) hx hb dX1_init_33 (by decide) ?_
  refine va_put (D := D) (ci := 1) (v := .int 0) (ty := .int) (C := RX1) (T := TX1) (N := 8) hx hb hts inX1 tyX1 tyX1_ok nmX1 hown hK hP hD hS 0 rfl rfl 5 (by decide) (hts _ tw_241) (fun _ h9 => h9) rfl (by decide +kernel) rfl rfl (Nat.le_of_ble_eq_true rfl) dX1_init_34 (fun H locs hP hD hS => ?_)
  have hQ9 := pd_mk [(h0, .inr (1, [.null, .ref q_1, .ref q_2, .ref q_3, .int 0, .int 0, .int 0, .int 0])), (aI k q_1 4 (fun _ => 0)), (aI k q_2 100 (fun _ => 0)), (aI k q_3 16 (fun _ => 0))] hP hD
  clear hP hD
  obtain ⟨hP, hD⟩ := hQ9
  refine lv_aload_n hx hb dX1_init_37 rfl (lv_at hl 0 rfl) ?_
  refine lv_iconst (v := 0) hx hb dX1_init_38 (by decide) ?_
  refine va_put (D := D) (ci := 1) (v := .int 0) (ty := .int) (C := RX1) (T := TX1) (N := 8) hx hb hts inX1 tyX1 tyX1_ok nmX1 hown hK hP hD hS 0 rfl rfl 6 (by decide) (hts _ tw_242) (fun _ h9 => h9) rfl (by decide +kernel) rfl rfl (Nat.le_of_ble_eq_true rfl) dX1_init_39 (fun H locs hP hD hS => ?_)
  have hQ9 := pd_mk [(h0, .inr (1, [.null, .ref q_1, .ref q_2, .ref q_3, .int 0, .int 0, .int 0, .int 0])), (aI k q_1 4 (fun _ => 0)), (aI k q_2 100 (fun _ => 0)), (aI k q_3 16 (fun _ => 0))] hP hD
  clear hP hD
  obtain ⟨hP, hD⟩ := hQ9
  refine lv_aload_n hx hb dX1_init_42 rfl (lv_at hl 0 rfl) ?_
  refine lv_iconst (v := 0) hx hb dX1_init_43 (by decide) ?_
  refine va_put (D := D) (ci := 1) (v := .int 0) (ty := .int) (C := RX1) (T := TX1) (N := 8) hx hb hts inX1 tyX1 tyX1_ok nmX1 hown hK hP hD hS 0 rfl rfl 7 (by decide) (hts _ tw_243) (fun _ h9 => h9) rfl (by decide +kernel) rfl rfl (Nat.le_of_ble_eq_true rfl) dX1_init_44 (fun H locs hP hD hS => ?_)
  have hQ9 := pd_mk [(h0, .inr (1, [.null, .ref q_1, .ref q_2, .ref q_3, .int 0, .int 0, .int 0, .int 0])), (aI k q_1 4 (fun _ => 0)), (aI k q_2 100 (fun _ => 0)), (aI k q_3 16 (fun _ => 0))] hP hD
  clear hP hD
  obtain ⟨hP, hD⟩ := hQ9
  refine lv_aload_n hx hb dX1_init_47 rfl (lv_at hl 0 rfl) ?_
  refine lv_aload_n hx hb dX1_init_48 rfl (lv_at hl 1 rfl) ?_
  refine va_putF (D := D) (ci := 1) (v := .ref s0) (ty := (.object "LastPlace$Scene")) (C := RX1) (T := TX1) (N := 8) hx hb hts inX1 tyX1 tyX1_ok nmX1 hown hK hP hD hS 0 rfl rfl 0 (by decide) (hts _ tw_235) (fun _ h9 => h9) rfl hin rfl (by decide +kernel) rfl rfl (Nat.le_of_ble_eq_true rfl) dX1_init_49 (fun H locs hP hD hS => ?_)
  have hQ9 := pd_mk [(h0, .inr (1, (fX1 s0 q_1 q_2 q_3 0 0 0 0))), (aI k q_1 4 (fun _ => 0)), (aI k q_2 100 (fun _ => 0)), (aI k q_3 16 (fun _ => 0))] hP hD
  clear hP hD
  obtain ⟨hP, hD⟩ := hQ9
  obtain ⟨hP9, hD9⟩ := pd_sub [(h0, .inr (1, (fX1 s0 q_1 q_2 q_3 0 0 0 0))), (aI k q_1 4 (fun _ => 0)), (aI k q_2 100 (fun _ => 0)), (aI k q_3 16 (fun _ => 0))] [0, 1, 2, 3] hP hD (by decide) rfl
  refine W.widen (k := 3) (n := 120) (by decide) (by decide) ?_
  exact W.vret hx hb hr (fun t ht hW => ⟨⟨(q_1, q_2, q_3), rfl, trivial, by rw [ht]; exact hP9, hD9⟩, hS.F ht⟩) hS.2.2 dX1_init_52

theorem dX0_init_0 : decode cX0_init 0 = .ok (.aload_n 0, 1) := by decide +kernel
theorem dX0_init_1 : decode cX0_init 1 = .ok (.invokespecial 3, 3) := by decide +kernel
theorem dX0_init_4 : decode cX0_init 4 = .ok (.aload_n 0, 1) := by decide +kernel
theorem dX0_init_5 : decode cX0_init 5 = .ok (.sipush 768, 3) := by decide +kernel
theorem dX0_init_8 : decode cX0_init 8 = .ok (.newarray .int, 2) := by decide +kernel
theorem dX0_init_10 : decode cX0_init 10 = .ok (.putfield 9, 3) := by decide +kernel
theorem dX0_init_13 : decode cX0_init 13 = .ok (.aload_n 0, 1) := by decide +kernel
theorem dX0_init_14 : decode cX0_init 14 = .ok (.iconst 4, 1) := by decide +kernel
theorem dX0_init_15 : decode cX0_init 15 = .ok (.newarray .int, 2) := by decide +kernel
theorem dX0_init_17 : decode cX0_init 17 = .ok (.putfield 15, 3) := by decide +kernel
theorem dX0_init_20 : decode cX0_init 20 = .ok (.aload_n 0, 1) := by decide +kernel
theorem dX0_init_21 : decode cX0_init 21 = .ok (.iconst 4, 1) := by decide +kernel
theorem dX0_init_22 : decode cX0_init 22 = .ok (.newarray .int, 2) := by decide +kernel
theorem dX0_init_24 : decode cX0_init 24 = .ok (.putfield 18, 3) := by decide +kernel
theorem dX0_init_27 : decode cX0_init 27 = .ok (.aload_n 0, 1) := by decide +kernel
theorem dX0_init_28 : decode cX0_init 28 = .ok (.bipush 8, 2) := by decide +kernel
theorem dX0_init_30 : decode cX0_init 30 = .ok (.newarray .int, 2) := by decide +kernel
theorem dX0_init_32 : decode cX0_init 32 = .ok (.putfield 21, 3) := by decide +kernel
theorem dX0_init_35 : decode cX0_init 35 = .ok (.aload_n 0, 1) := by decide +kernel
theorem dX0_init_36 : decode cX0_init 36 = .ok (.aload_n 1, 1) := by decide +kernel
theorem dX0_init_37 : decode cX0_init 37 = .ok (.putfield 24, 3) := by decide +kernel
theorem dX0_init_40 : decode cX0_init 40 = .ok (.return_, 1) := by decide +kernel
set_option maxHeartbeats 4000000 in
set_option maxRecDepth 100000 in
theorem x_BestWay_init (l : Launch) (D : va_G) (k : Nat → ClassId) (st : Nat → Nat) (lo : Nat) (h0 : Nat) (s0 : Nat)  : CWv l D k st lo yX0_init cX0_init 2 none ({ frames := 1, cells := 4, slots := 784, locals := 12 }) 4 784 [.ref h0, .ref s0] [(h0, .inr (0, [.null, .null, .null, .null, .null]))] (fun (_ : Nat × Nat × Nat × Nat) => True) (fun (u : Nat × Nat × Nat × Nat) => match u with | (q0, q1, q2, q3) => [(h0, .inr (0, (fX0 s0 q0 q1 q2 q3))), (aI k q0 768 (fun _ => 0)), (aI k q1 4 (fun _ => 0)), (aI k q2 4 (fun _ => 0)), (aI k q3 8 (fun _ => 0))]) := by
  intro sz
  refine Met.ofW (cc := cX0_init) (maxL := 2) (ret := none) (by decide) rfl ?_
  intro p e s m args below meth c s₁ B hml hv
  obtain ⟨rfl, hsz, hlo, hP, hK, hDL, hZ⟩ := hv
  have hx := B.exec
  have hb := B.bytes
  have hr := B.returns
  have hts := WS_ts B.pre
  have hown : s.vm.findClass RX0 = some m.cls := findClass_of_methodNamed B.named
  have hlocks := B.notSynchronized
  have hin : meth.name = "<init>" := (name_of_methodNamed B.named B.method).1
  subst hsz
  have hD := hDL.self (sz := s.heap.size)
  have hAlo := A_lo hDL hlo
  generalize hAe : va_A [(h0, .inr (0, [.null, .null, .null, .null, .null]))] s.heap.size = A at hD hAlo ⊢
  have hA : ∀ q : Nat, s.heap.size ≤ q → A q := fun q h => by rw [← hAe]; exact Or.inr h
  have hS : va_S A s.heap s.heap [] := va_S.rf
  have hl := lv_entry ([.ref h0, .ref s0]) (n := 2) (Nat.le_of_ble_eq_true rfl)
  rw [lg_entry_eq]
  generalize (lg_sl ([.ref h0, .ref s0]) ++ List.replicate (2 - (lg_sl ([.ref h0, .ref s0])).length) Slot.unset).toArray = ls at hl ⊢
  have hl : lv_has ls 2 [(0, .ref h0), (1, .ref s0)] := hl
  refine lv_aload_n hx hb dX0_init_0 rfl (lv_at hl 0 rfl) ?_
  refine W.objInit hx hb hown (hts _ tw_265) (hts _ tw_101) (hts _ tw_102) rfl (by rw [hml]; exact hl.1) rfl dX0_init_1 (Nat.le_of_ble_eq_true rfl) (Nat.le_of_ble_eq_true rfl) ?_
  refine W.eq (g2 := F0 m 4 ls []) rfl ?_
  refine lv_aload_n hx hb dX0_init_4 rfl (lv_at hl 0 rfl) ?_
  refine lv_sipush (v := 768) hx hb dX0_init_5 (by decide) ?_
  refine nwa (atype := .int) (t0 := 1) (a0 := (768, .inl (fun _ => 0))) hx hb (hts _ tw_164) rfl rfl hK hP hD hS hA (fun _ => rfl) (by decide) (N' := 768) (by decide) (by decide) (Nat.le_of_ble_eq_true rfl) (Nat.le_of_ble_eq_true rfl) dX0_init_8 (fun q_1 H hP hD hS => ?_)
  refine W.widen (k := 1) (n := 768) (by decide) (by decide) ?_
  have hQ9 := pd_mk [(h0, .inr (0, [.null, .null, .null, .null, .null])), (aI k q_1 768 (fun _ => 0))] hP hD
  clear hP hD
  obtain ⟨hP, hD⟩ := hQ9
  refine va_putF (D := D) (ci := 0) (v := .ref q_1) (ty := (.array .int)) (C := RX0) (T := TX0) (N := 5) hx hb hts inX0 tyX0 tyX0_ok nmX0 hown hK hP hD hS 0 rfl rfl 1 (by decide) (hts _ tw_267) (fun _ h9 => h9) rfl hin rfl (by decide +kernel) rfl rfl (Nat.le_of_ble_eq_true rfl) dX0_init_10 (fun H locs hP hD hS => ?_)
  have hQ9 := pd_mk [(h0, .inr (0, [.null, .ref q_1, .null, .null, .null])), (aI k q_1 768 (fun _ => 0))] hP hD
  clear hP hD
  obtain ⟨hP, hD⟩ := hQ9
  refine lv_aload_n hx hb dX0_init_13 rfl (lv_at hl 0 rfl) ?_
  refine lv_iconst (v := 4) hx hb dX0_init_14 (by decide) ?_
  refine nwa (atype := .int) (t0 := 1) (a0 := (4, .inl (fun _ => 0))) hx hb (hts _ tw_164) rfl rfl hK hP hD hS hA (fun _ => rfl) (by decide) (N' := 4) (by decide) (by decide) (Nat.le_of_ble_eq_true rfl) (Nat.le_of_ble_eq_true rfl) dX0_init_15 (fun q_2 H hP hD hS => ?_)
  refine W.widen (k := 2) (n := 772) (by decide) (by decide) ?_
  have hQ9 := pd_mk [(h0, .inr (0, [.null, .ref q_1, .null, .null, .null])), (aI k q_1 768 (fun _ => 0)), (aI k q_2 4 (fun _ => 0))] hP hD
  clear hP hD
  obtain ⟨hP, hD⟩ := hQ9
  refine va_putF (D := D) (ci := 0) (v := .ref q_2) (ty := (.array .int)) (C := RX0) (T := TX0) (N := 5) hx hb hts inX0 tyX0 tyX0_ok nmX0 hown hK hP hD hS 0 rfl rfl 2 (by decide) (hts _ tw_268) (fun _ h9 => h9) rfl hin rfl (by decide +kernel) rfl rfl (Nat.le_of_ble_eq_true rfl) dX0_init_17 (fun H locs hP hD hS => ?_)
  have hQ9 := pd_mk [(h0, .inr (0, [.null, .ref q_1, .ref q_2, .null, .null])), (aI k q_1 768 (fun _ => 0)), (aI k q_2 4 (fun _ => 0))] hP hD
  clear hP hD
  obtain ⟨hP, hD⟩ := hQ9
  refine lv_aload_n hx hb dX0_init_20 rfl (lv_at hl 0 rfl) ?_
  refine lv_iconst (v := 4) hx hb dX0_init_21 (by decide) ?_
  refine nwa (atype := .int) (t0 := 1) (a0 := (4, .inl (fun _ => 0))) hx hb (hts _ tw_164) rfl rfl hK hP hD hS hA (fun _ => rfl) (by decide) (N' := 4) (by decide) (by decide) (Nat.le_of_ble_eq_true rfl) (Nat.le_of_ble_eq_true rfl) dX0_init_22 (fun q_3 H hP hD hS => ?_)
  refine W.widen (k := 3) (n := 776) (by decide) (by decide) ?_
  have hQ9 := pd_mk [(h0, .inr (0, [.null, .ref q_1, .ref q_2, .null, .null])), (aI k q_1 768 (fun _ => 0)), (aI k q_2 4 (fun _ => 0)), (aI k q_3 4 (fun _ => 0))] hP hD
  clear hP hD
  obtain ⟨hP, hD⟩ := hQ9
  refine va_putF (D := D) (ci := 0) (v := .ref q_3) (ty := (.array .int)) (C := RX0) (T := TX0) (N := 5) hx hb hts inX0 tyX0 tyX0_ok nmX0 hown hK hP hD hS 0 rfl rfl 3 (by decide) (hts _ tw_270) (fun _ h9 => h9) rfl hin rfl (by decide +kernel) rfl rfl (Nat.le_of_ble_eq_true rfl) dX0_init_24 (fun H locs hP hD hS => ?_)
  have hQ9 := pd_mk [(h0, .inr (0, [.null, .ref q_1, .ref q_2, .ref q_3, .null])), (aI k q_1 768 (fun _ => 0)), (aI k q_2 4 (fun _ => 0)), (aI k q_3 4 (fun _ => 0))] hP hD
  clear hP hD
  obtain ⟨hP, hD⟩ := hQ9
  refine lv_aload_n hx hb dX0_init_27 rfl (lv_at hl 0 rfl) ?_
  refine lv_bipush (v := 8) hx hb dX0_init_28 (by decide) ?_
  refine nwa (atype := .int) (t0 := 1) (a0 := (8, .inl (fun _ => 0))) hx hb (hts _ tw_164) rfl rfl hK hP hD hS hA (fun _ => rfl) (by decide) (N' := 8) (by decide) (by decide) (Nat.le_of_ble_eq_true rfl) (Nat.le_of_ble_eq_true rfl) dX0_init_30 (fun q_4 H hP hD hS => ?_)
  refine W.widen (k := 4) (n := 784) (by decide) (by decide) ?_
  have hQ9 := pd_mk [(h0, .inr (0, [.null, .ref q_1, .ref q_2, .ref q_3, .null])), (aI k q_1 768 (fun _ => 0)), (aI k q_2 4 (fun _ => 0)), (aI k q_3 4 (fun _ => 0)), (aI k q_4 8 (fun _ => 0))] hP hD
  clear hP hD
  obtain ⟨hP, hD⟩ := hQ9
  refine va_putF (D := D) (ci := 0) (v := .ref q_4) (ty := (.array .int)) (C := RX0) (T := TX0) (N := 5) hx hb hts inX0 tyX0 tyX0_ok nmX0 hown hK hP hD hS 0 rfl rfl 4 (by decide) (hts _ tw_272) (fun _ h9 => h9) rfl hin rfl (by decide +kernel) rfl rfl (Nat.le_of_ble_eq_true rfl) dX0_init_32 (fun H locs hP hD hS => ?_)
  have hQ9 := pd_mk [(h0, .inr (0, [.null, .ref q_1, .ref q_2, .ref q_3, .ref q_4])), (aI k q_1 768 (fun _ => 0)), (aI k q_2 4 (fun _ => 0)), (aI k q_3 4 (fun _ => 0)), (aI k q_4 8 (fun _ => 0))] hP hD
  clear hP hD
  obtain ⟨hP, hD⟩ := hQ9
  refine lv_aload_n hx hb dX0_init_35 rfl (lv_at hl 0 rfl) ?_
  refine lv_aload_n hx hb dX0_init_36 rfl (lv_at hl 1 rfl) ?_
  refine va_putF (D := D) (ci := 0) (v := .ref s0) (ty := (.object "LastPlace$Street")) (C := RX0) (T := TX0) (N := 5) hx hb hts inX0 tyX0 tyX0_ok nmX0 hown hK hP hD hS 0 rfl rfl 0 (by decide) (hts _ tw_266) (fun _ h9 => h9) rfl hin rfl (by decide +kernel) rfl rfl (Nat.le_of_ble_eq_true rfl) dX0_init_37 (fun H locs hP hD hS => ?_)
  have hQ9 := pd_mk [(h0, .inr (0, (fX0 s0 q_1 q_2 q_3 q_4))), (aI k q_1 768 (fun _ => 0)), (aI k q_2 4 (fun _ => 0)), (aI k q_3 4 (fun _ => 0)), (aI k q_4 8 (fun _ => 0))] hP hD
  clear hP hD
  obtain ⟨hP, hD⟩ := hQ9
  obtain ⟨hP9, hD9⟩ := pd_sub [(h0, .inr (0, (fX0 s0 q_1 q_2 q_3 q_4))), (aI k q_1 768 (fun _ => 0)), (aI k q_2 4 (fun _ => 0)), (aI k q_3 4 (fun _ => 0)), (aI k q_4 8 (fun _ => 0))] [0, 1, 2, 3, 4] hP hD (by decide) rfl
  refine W.widen (k := 4) (n := 784) (by decide) (by decide) ?_
  exact W.vret hx hb hr (fun t ht hW => ⟨⟨(q_1, q_2, q_3, q_4), rfl, trivial, by rw [ht]; exact hP9, hD9⟩, hS.F ht⟩) hS.2.2 dX0_init_40


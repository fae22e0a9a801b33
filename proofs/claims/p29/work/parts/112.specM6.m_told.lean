theorem f_m_told_rows : True := trivial
theorem dX8_told_0 : decode cX8_told 0 = .ok (.aload_n 0, 1) := by decide +kernel
theorem dX8_told_1 : decode cX8_told 1 = .ok (.iload_n 1, 1) := by decide +kernel
theorem dX8_told_2 : decode cX8_told 2 = .ok (.invokevirtual 206, 3) := by decide +kernel
theorem dX8_told_5 : decode cX8_told 5 = .ok (.ifCond .ne 7, 3) := by decide +kernel
theorem dX8_told_8 : decode cX8_told 8 = .ok (.sipush (-1001), 3) := by decide +kernel
theorem dX8_told_11 : decode cX8_told 11 = .ok (.ireturn, 1) := by decide +kernel
theorem dX8_told_12 : decode cX8_told 12 = .ok (.iload_n 2, 1) := by decide +kernel
theorem dX8_told_13 : decode cX8_told 13 = .ok (.ifCond .ne 12, 3) := by decide +kernel
theorem dX8_told_16 : decode cX8_told 16 = .ok (.aload_n 0, 1) := by decide +kernel
theorem dX8_told_17 : decode cX8_told 17 = .ok (.getfield 7, 3) := by decide +kernel
theorem dX8_told_20 : decode cX8_told 20 = .ok (.iload_n 1, 1) := by decide +kernel
theorem dX8_told_21 : decode cX8_told 21 = .ok (.iaload, 1) := by decide +kernel
theorem dX8_told_22 : decode cX8_told 22 = .ok (.goto 29, 3) := by decide +kernel
theorem dX8_told_25 : decode cX8_told 25 = .ok (.iload_n 2, 1) := by decide +kernel
theorem dX8_told_26 : decode cX8_told 26 = .ok (.i2l, 1) := by decide +kernel
theorem dX8_told_27 : decode cX8_told 27 = .ok (.lconst 1, 1) := by decide +kernel
theorem dX8_told_28 : decode cX8_told 28 = .ok (.ldc2_w 210, 3) := by decide +kernel
theorem dX8_told_31 : decode cX8_told 31 = .ok (.invokestatic 107, 3) := by decide +kernel
theorem dX8_told_34 : decode cX8_told 34 = .ok (.ifCond .eq 14, 3) := by decide +kernel
theorem dX8_told_37 : decode cX8_told 37 = .ok (.aload_n 0, 1) := by decide +kernel
theorem dX8_told_38 : decode cX8_told 38 = .ok (.iload_n 1, 1) := by decide +kernel
theorem dX8_told_39 : decode cX8_told 39 = .ok (.iload_n 2, 1) := by decide +kernel
theorem dX8_told_40 : decode cX8_told 40 = .ok (.iconst 1, 1) := by decide +kernel
theorem dX8_told_41 : decode cX8_told 41 = .ok (.isub, 1) := by decide +kernel
theorem dX8_told_42 : decode cX8_told 42 = .ok (.invokevirtual 212, 3) := by decide +kernel
theorem dX8_told_45 : decode cX8_told 45 = .ok (.goto 6, 3) := by decide +kernel
theorem dX8_told_48 : decode cX8_told 48 = .ok (.sipush (-1002), 3) := by decide +kernel
theorem dX8_told_51 : decode cX8_told 51 = .ok (.ireturn, 1) := by decide +kernel
theorem f_m_door_rows : True := trivial
theorem dX8_door_0 : decode cX8_door 0 = .ok (.aload_n 0, 1) := by decide +kernel
theorem dX8_door_1 : decode cX8_door 1 = .ok (.iload_n 1, 1) := by decide +kernel
theorem dX8_door_2 : decode cX8_door 2 = .ok (.invokevirtual 206, 3) := by decide +kernel
theorem dX8_door_5 : decode cX8_door 5 = .ok (.ifCond .eq 12, 3) := by decide +kernel
theorem dX8_door_8 : decode cX8_door 8 = .ok (.aload_n 0, 1) := by decide +kernel
theorem dX8_door_9 : decode cX8_door 9 = .ok (.iload_n 1, 1) := by decide +kernel
theorem dX8_door_10 : decode cX8_door 10 = .ok (.iload_n 2, 1) := by decide +kernel
theorem dX8_door_11 : decode cX8_door 11 = .ok (.invokevirtual 215, 3) := by decide +kernel
theorem dX8_door_14 : decode cX8_door 14 = .ok (.ifCond .ne 7, 3) := by decide +kernel
theorem dX8_door_17 : decode cX8_door 17 = .ok (.sipush (-1001), 3) := by decide +kernel
theorem dX8_door_20 : decode cX8_door 20 = .ok (.ireturn, 1) := by decide +kernel
theorem dX8_door_21 : decode cX8_door 21 = .ok (.iload_n 3, 1) := by decide +kernel
theorem dX8_door_22 : decode cX8_door 22 = .ok (.ifCond .ne 17, 3) := by decide +kernel
theorem dX8_door_25 : decode cX8_door 25 = .ok (.aload_n 0, 1) := by decide +kernel
theorem dX8_door_26 : decode cX8_door 26 = .ok (.getfield 13, 3) := by decide +kernel
theorem dX8_door_29 : decode cX8_door 29 = .ok (.bipush 24, 2) := by decide +kernel
theorem dX8_door_31 : decode cX8_door 31 = .ok (.iload_n 1, 1) := by decide +kernel
theorem dX8_door_32 : decode cX8_door 32 = .ok (.imul, 1) := by decide +kernel
theorem dX8_door_33 : decode cX8_door 33 = .ok (.iload_n 2, 1) := by decide +kernel
theorem dX8_door_34 : decode cX8_door 34 = .ok (.iadd, 1) := by decide +kernel
theorem dX8_door_35 : decode cX8_door 35 = .ok (.iaload, 1) := by decide +kernel
theorem dX8_door_36 : decode cX8_door 36 = .ok (.goto 25, 3) := by decide +kernel
theorem dX8_door_39 : decode cX8_door 39 = .ok (.iload_n 3, 1) := by decide +kernel
theorem dX8_door_40 : decode cX8_door 40 = .ok (.iconst 1, 1) := by decide +kernel
theorem dX8_door_41 : decode cX8_door 41 = .ok (.if_icmp .ne 17, 3) := by decide +kernel
theorem dX8_door_44 : decode cX8_door 44 = .ok (.aload_n 0, 1) := by decide +kernel
theorem dX8_door_45 : decode cX8_door 45 = .ok (.getfield 16, 3) := by decide +kernel
theorem dX8_door_48 : decode cX8_door 48 = .ok (.bipush 24, 2) := by decide +kernel
theorem dX8_door_50 : decode cX8_door 50 = .ok (.iload_n 1, 1) := by decide +kernel
theorem dX8_door_51 : decode cX8_door 51 = .ok (.imul, 1) := by decide +kernel
theorem dX8_door_52 : decode cX8_door 52 = .ok (.iload_n 2, 1) := by decide +kernel
theorem dX8_door_53 : decode cX8_door 53 = .ok (.iadd, 1) := by decide +kernel
theorem dX8_door_54 : decode cX8_door 54 = .ok (.iaload, 1) := by decide +kernel
theorem dX8_door_55 : decode cX8_door 55 = .ok (.goto 6, 3) := by decide +kernel
theorem dX8_door_58 : decode cX8_door 58 = .ok (.sipush (-1002), 3) := by decide +kernel
theorem dX8_door_61 : decode cX8_door 61 = .ok (.ireturn, 1) := by decide +kernel
theorem f_m_chance_rows : True := trivial
theorem dX8_chance_0 : decode cX8_chance 0 = .ok (.aload_n 0, 1) := by decide +kernel
theorem dX8_chance_1 : decode cX8_chance 1 = .ok (.iload_n 1, 1) := by decide +kernel
theorem dX8_chance_2 : decode cX8_chance 2 = .ok (.invokevirtual 206, 3) := by decide +kernel
theorem dX8_chance_5 : decode cX8_chance 5 = .ok (.ifCond .eq 22, 3) := by decide +kernel
theorem dX8_chance_8 : decode cX8_chance 8 = .ok (.aload_n 0, 1) := by decide +kernel
theorem dX8_chance_9 : decode cX8_chance 9 = .ok (.iload_n 1, 1) := by decide +kernel
theorem dX8_chance_10 : decode cX8_chance 10 = .ok (.iload_n 2, 1) := by decide +kernel
theorem dX8_chance_11 : decode cX8_chance 11 = .ok (.invokevirtual 215, 3) := by decide +kernel
theorem dX8_chance_14 : decode cX8_chance 14 = .ok (.ifCond .eq 13, 3) := by decide +kernel
theorem dX8_chance_17 : decode cX8_chance 17 = .ok (.aload_n 0, 1) := by decide +kernel
theorem dX8_chance_18 : decode cX8_chance 18 = .ok (.iload_n 1, 1) := by decide +kernel
theorem dX8_chance_19 : decode cX8_chance 19 = .ok (.iload_n 2, 1) := by decide +kernel
theorem dX8_chance_20 : decode cX8_chance 20 = .ok (.iload_n 3, 1) := by decide +kernel
theorem dX8_chance_21 : decode cX8_chance 21 = .ok (.invokevirtual 219, 3) := by decide +kernel
theorem dX8_chance_24 : decode cX8_chance 24 = .ok (.goto 6, 3) := by decide +kernel
theorem dX8_chance_27 : decode cX8_chance 27 = .ok (.sipush (-1001), 3) := by decide +kernel
theorem dX8_chance_30 : decode cX8_chance 30 = .ok (.ireturn, 1) := by decide +kernel
theorem f_m_taking_rows : True := trivial
theorem dX8_taking_0 : decode cX8_taking 0 = .ok (.aload_n 0, 1) := by decide +kernel
theorem dX8_taking_1 : decode cX8_taking 1 = .ok (.iload_n 1, 1) := by decide +kernel
theorem dX8_taking_2 : decode cX8_taking 2 = .ok (.invokevirtual 206, 3) := by decide +kernel
theorem dX8_taking_5 : decode cX8_taking 5 = .ok (.ifCond .eq 12, 3) := by decide +kernel
theorem dX8_taking_8 : decode cX8_taking 8 = .ok (.aload_n 0, 1) := by decide +kernel
theorem dX8_taking_9 : decode cX8_taking 9 = .ok (.iload_n 1, 1) := by decide +kernel
theorem dX8_taking_10 : decode cX8_taking 10 = .ok (.iload_n 3, 1) := by decide +kernel
theorem dX8_taking_11 : decode cX8_taking 11 = .ok (.invokevirtual 215, 3) := by decide +kernel
theorem dX8_taking_14 : decode cX8_taking 14 = .ok (.ifCond .ne 7, 3) := by decide +kernel
theorem dX8_taking_17 : decode cX8_taking 17 = .ok (.sipush (-1001), 3) := by decide +kernel
theorem dX8_taking_20 : decode cX8_taking 20 = .ok (.ireturn, 1) := by decide +kernel
theorem dX8_taking_21 : decode cX8_taking 21 = .ok (.aload_n 0, 1) := by decide +kernel
theorem dX8_taking_22 : decode cX8_taking 22 = .ok (.iload_n 1, 1) := by decide +kernel
theorem dX8_taking_23 : decode cX8_taking 23 = .ok (.iload_n 2, 1) := by decide +kernel
theorem dX8_taking_24 : decode cX8_taking 24 = .ok (.invokevirtual 234, 3) := by decide +kernel
theorem dX8_taking_27 : decode cX8_taking 27 = .ok (.ifCond .eq 13, 3) := by decide +kernel
theorem dX8_taking_30 : decode cX8_taking 30 = .ok (.aload_n 0, 1) := by decide +kernel
theorem dX8_taking_31 : decode cX8_taking 31 = .ok (.iload_n 1, 1) := by decide +kernel
theorem dX8_taking_32 : decode cX8_taking 32 = .ok (.iload_n 2, 1) := by decide +kernel
theorem dX8_taking_33 : decode cX8_taking 33 = .ok (.iload_n 3, 1) := by decide +kernel
theorem dX8_taking_34 : decode cX8_taking 34 = .ok (.invokevirtual 237, 3) := by decide +kernel
theorem dX8_taking_37 : decode cX8_taking 37 = .ok (.goto 6, 3) := by decide +kernel
theorem dX8_taking_40 : decode cX8_taking 40 = .ok (.sipush (-1002), 3) := by decide +kernel
theorem dX8_taking_43 : decode cX8_taking 43 = .ok (.ireturn, 1) := by decide +kernel
theorem f_m_worth_rows : True := trivial
theorem dX8_worth_0 : decode cX8_worth 0 = .ok (.aload_n 0, 1) := by decide +kernel
theorem dX8_worth_1 : decode cX8_worth 1 = .ok (.iload_n 1, 1) := by decide +kernel
theorem dX8_worth_2 : decode cX8_worth 2 = .ok (.invokevirtual 206, 3) := by decide +kernel
theorem dX8_worth_5 : decode cX8_worth 5 = .ok (.ifCond .eq 12, 3) := by decide +kernel
theorem dX8_worth_8 : decode cX8_worth 8 = .ok (.aload_n 0, 1) := by decide +kernel
theorem dX8_worth_9 : decode cX8_worth 9 = .ok (.iload_n 1, 1) := by decide +kernel
theorem dX8_worth_10 : decode cX8_worth 10 = .ok (.iload_n 3, 1) := by decide +kernel
theorem dX8_worth_11 : decode cX8_worth 11 = .ok (.invokevirtual 215, 3) := by decide +kernel
theorem dX8_worth_14 : decode cX8_worth 14 = .ok (.ifCond .ne 7, 3) := by decide +kernel
theorem dX8_worth_17 : decode cX8_worth 17 = .ok (.sipush (-1001), 3) := by decide +kernel
theorem dX8_worth_20 : decode cX8_worth 20 = .ok (.ireturn, 1) := by decide +kernel
theorem dX8_worth_21 : decode cX8_worth 21 = .ok (.aload_n 0, 1) := by decide +kernel
theorem dX8_worth_22 : decode cX8_worth 22 = .ok (.iload_n 1, 1) := by decide +kernel
theorem dX8_worth_23 : decode cX8_worth 23 = .ok (.iload_n 2, 1) := by decide +kernel
theorem dX8_worth_24 : decode cX8_worth 24 = .ok (.invokevirtual 234, 3) := by decide +kernel
theorem dX8_worth_27 : decode cX8_worth 27 = .ok (.ifCond .eq 14, 3) := by decide +kernel
theorem dX8_worth_30 : decode cX8_worth 30 = .ok (.aload_n 0, 1) := by decide +kernel
theorem dX8_worth_31 : decode cX8_worth 31 = .ok (.iload_n 1, 1) := by decide +kernel
theorem dX8_worth_32 : decode cX8_worth 32 = .ok (.iload_n 3, 1) := by decide +kernel
theorem dX8_worth_33 : decode cX8_worth 33 = .ok (.iload 4, 2) := by decide +kernel
theorem dX8_worth_35 : decode cX8_worth 35 = .ok (.invokevirtual 264, 3) := by decide +kernel
theorem dX8_worth_38 : decode cX8_worth 38 = .ok (.ifCond .ne 7, 3) := by decide +kernel
theorem dX8_worth_41 : decode cX8_worth 41 = .ok (.sipush (-1002), 3) := by decide +kernel
theorem dX8_worth_44 : decode cX8_worth 44 = .ok (.ireturn, 1) := by decide +kernel
theorem dX8_worth_45 : decode cX8_worth 45 = .ok (.aload_n 0, 1) := by decide +kernel
theorem dX8_worth_46 : decode cX8_worth 46 = .ok (.iload_n 1, 1) := by decide +kernel
theorem dX8_worth_47 : decode cX8_worth 47 = .ok (.invokevirtual 268, 3) := by decide +kernel
theorem dX8_worth_50 : decode cX8_worth 50 = .ok (.aload_n 0, 1) := by decide +kernel
theorem dX8_worth_51 : decode cX8_worth 51 = .ok (.getfield 41, 3) := by decide +kernel
theorem dX8_worth_54 : decode cX8_worth 54 = .ok (.iload_n 2, 1) := by decide +kernel
theorem dX8_worth_55 : decode cX8_worth 55 = .ok (.iload_n 3, 1) := by decide +kernel
theorem dX8_worth_56 : decode cX8_worth 56 = .ok (.iload 4, 2) := by decide +kernel
theorem dX8_worth_58 : decode cX8_worth 58 = .ok (.invokestatic 242, 3) := by decide +kernel
theorem dX8_worth_61 : decode cX8_worth 61 = .ok (.iaload, 1) := by decide +kernel
theorem dX8_worth_62 : decode cX8_worth 62 = .ok (.ireturn, 1) := by decide +kernel
theorem f_m_goingOn_rows : True := trivial
theorem dX8_goingOn_0 : decode cX8_goingOn 0 = .ok (.aload_n 0, 1) := by decide +kernel
theorem dX8_goingOn_1 : decode cX8_goingOn 1 = .ok (.iload_n 1, 1) := by decide +kernel
theorem dX8_goingOn_2 : decode cX8_goingOn 2 = .ok (.invokevirtual 206, 3) := by decide +kernel
theorem dX8_goingOn_5 : decode cX8_goingOn 5 = .ok (.ifCond .eq 12, 3) := by decide +kernel
theorem dX8_goingOn_8 : decode cX8_goingOn 8 = .ok (.aload_n 0, 1) := by decide +kernel
theorem dX8_goingOn_9 : decode cX8_goingOn 9 = .ok (.iload_n 1, 1) := by decide +kernel
theorem dX8_goingOn_10 : decode cX8_goingOn 10 = .ok (.iload_n 3, 1) := by decide +kernel
theorem dX8_goingOn_11 : decode cX8_goingOn 11 = .ok (.invokevirtual 215, 3) := by decide +kernel
theorem dX8_goingOn_14 : decode cX8_goingOn 14 = .ok (.ifCond .ne 7, 3) := by decide +kernel
theorem dX8_goingOn_17 : decode cX8_goingOn 17 = .ok (.sipush (-1001), 3) := by decide +kernel
theorem dX8_goingOn_20 : decode cX8_goingOn 20 = .ok (.ireturn, 1) := by decide +kernel
theorem dX8_goingOn_21 : decode cX8_goingOn 21 = .ok (.aload_n 0, 1) := by decide +kernel
theorem dX8_goingOn_22 : decode cX8_goingOn 22 = .ok (.iload_n 1, 1) := by decide +kernel
theorem dX8_goingOn_23 : decode cX8_goingOn 23 = .ok (.iload_n 2, 1) := by decide +kernel
theorem dX8_goingOn_24 : decode cX8_goingOn 24 = .ok (.invokevirtual 234, 3) := by decide +kernel
theorem dX8_goingOn_27 : decode cX8_goingOn 27 = .ok (.ifCond .eq 14, 3) := by decide +kernel
theorem dX8_goingOn_30 : decode cX8_goingOn 30 = .ok (.aload_n 0, 1) := by decide +kernel
theorem dX8_goingOn_31 : decode cX8_goingOn 31 = .ok (.iload_n 1, 1) := by decide +kernel
theorem dX8_goingOn_32 : decode cX8_goingOn 32 = .ok (.iload_n 3, 1) := by decide +kernel
theorem dX8_goingOn_33 : decode cX8_goingOn 33 = .ok (.iload 4, 2) := by decide +kernel
theorem dX8_goingOn_35 : decode cX8_goingOn 35 = .ok (.invokevirtual 264, 3) := by decide +kernel
theorem dX8_goingOn_38 : decode cX8_goingOn 38 = .ok (.ifCond .ne 7, 3) := by decide +kernel
theorem dX8_goingOn_41 : decode cX8_goingOn 41 = .ok (.sipush (-1002), 3) := by decide +kernel
theorem dX8_goingOn_44 : decode cX8_goingOn 44 = .ok (.ireturn, 1) := by decide +kernel
theorem dX8_goingOn_45 : decode cX8_goingOn 45 = .ok (.aload_n 0, 1) := by decide +kernel
theorem dX8_goingOn_46 : decode cX8_goingOn 46 = .ok (.iload_n 1, 1) := by decide +kernel
theorem dX8_goingOn_47 : decode cX8_goingOn 47 = .ok (.invokevirtual 268, 3) := by decide +kernel
theorem dX8_goingOn_50 : decode cX8_goingOn 50 = .ok (.aload_n 0, 1) := by decide +kernel
theorem dX8_goingOn_51 : decode cX8_goingOn 51 = .ok (.getfield 38, 3) := by decide +kernel
theorem dX8_goingOn_54 : decode cX8_goingOn 54 = .ok (.iload_n 2, 1) := by decide +kernel
theorem dX8_goingOn_55 : decode cX8_goingOn 55 = .ok (.iload_n 3, 1) := by decide +kernel
theorem dX8_goingOn_56 : decode cX8_goingOn 56 = .ok (.iload 4, 2) := by decide +kernel
theorem dX8_goingOn_58 : decode cX8_goingOn 58 = .ok (.invokestatic 242, 3) := by decide +kernel
theorem dX8_goingOn_61 : decode cX8_goingOn 61 = .ok (.iaload, 1) := by decide +kernel
theorem dX8_goingOn_62 : decode cX8_goingOn 62 = .ok (.ireturn, 1) := by decide +kernel
theorem f_m_takes_rows : True := trivial
theorem dX8_takes_0 : decode cX8_takes 0 = .ok (.aload_n 0, 1) := by decide +kernel
theorem dX8_takes_1 : decode cX8_takes 1 = .ok (.iload_n 1, 1) := by decide +kernel
theorem dX8_takes_2 : decode cX8_takes 2 = .ok (.invokevirtual 206, 3) := by decide +kernel
theorem dX8_takes_5 : decode cX8_takes 5 = .ok (.ifCond .eq 12, 3) := by decide +kernel
theorem dX8_takes_8 : decode cX8_takes 8 = .ok (.aload_n 0, 1) := by decide +kernel
theorem dX8_takes_9 : decode cX8_takes 9 = .ok (.iload_n 1, 1) := by decide +kernel
theorem dX8_takes_10 : decode cX8_takes 10 = .ok (.iload_n 3, 1) := by decide +kernel
theorem dX8_takes_11 : decode cX8_takes 11 = .ok (.invokevirtual 215, 3) := by decide +kernel
theorem dX8_takes_14 : decode cX8_takes 14 = .ok (.ifCond .ne 7, 3) := by decide +kernel
theorem dX8_takes_17 : decode cX8_takes 17 = .ok (.sipush (-1001), 3) := by decide +kernel
theorem dX8_takes_20 : decode cX8_takes 20 = .ok (.ireturn, 1) := by decide +kernel
theorem dX8_takes_21 : decode cX8_takes 21 = .ok (.aload_n 0, 1) := by decide +kernel
theorem dX8_takes_22 : decode cX8_takes 22 = .ok (.iload_n 1, 1) := by decide +kernel
theorem dX8_takes_23 : decode cX8_takes 23 = .ok (.iload_n 2, 1) := by decide +kernel
theorem dX8_takes_24 : decode cX8_takes 24 = .ok (.invokevirtual 234, 3) := by decide +kernel
theorem dX8_takes_27 : decode cX8_takes 27 = .ok (.ifCond .eq 14, 3) := by decide +kernel
theorem dX8_takes_30 : decode cX8_takes 30 = .ok (.aload_n 0, 1) := by decide +kernel
theorem dX8_takes_31 : decode cX8_takes 31 = .ok (.iload_n 1, 1) := by decide +kernel
theorem dX8_takes_32 : decode cX8_takes 32 = .ok (.iload_n 3, 1) := by decide +kernel
theorem dX8_takes_33 : decode cX8_takes 33 = .ok (.iload 4, 2) := by decide +kernel
theorem dX8_takes_35 : decode cX8_takes 35 = .ok (.invokevirtual 264, 3) := by decide +kernel
theorem dX8_takes_38 : decode cX8_takes 38 = .ok (.ifCond .ne 7, 3) := by decide +kernel
theorem dX8_takes_41 : decode cX8_takes 41 = .ok (.sipush (-1002), 3) := by decide +kernel
theorem dX8_takes_44 : decode cX8_takes 44 = .ok (.ireturn, 1) := by decide +kernel
theorem dX8_takes_45 : decode cX8_takes 45 = .ok (.iload 4, 2) := by decide +kernel
theorem dX8_takes_47 : decode cX8_takes 47 = .ok (.iconst 1, 1) := by decide +kernel
theorem dX8_takes_48 : decode cX8_takes 48 = .ok (.iand, 1) := by decide +kernel
theorem dX8_takes_49 : decode cX8_takes 49 = .ok (.ifCond .ne 7, 3) := by decide +kernel
theorem dX8_takes_52 : decode cX8_takes 52 = .ok (.sipush (-1003), 3) := by decide +kernel
theorem dX8_takes_55 : decode cX8_takes 55 = .ok (.ireturn, 1) := by decide +kernel
theorem dX8_takes_56 : decode cX8_takes 56 = .ok (.aload_n 0, 1) := by decide +kernel
theorem dX8_takes_57 : decode cX8_takes 57 = .ok (.iload_n 1, 1) := by decide +kernel
theorem dX8_takes_58 : decode cX8_takes 58 = .ok (.invokevirtual 268, 3) := by decide +kernel
theorem dX8_takes_61 : decode cX8_takes 61 = .ok (.aload_n 0, 1) := by decide +kernel
theorem dX8_takes_62 : decode cX8_takes 62 = .ok (.iload_n 1, 1) := by decide +kernel
theorem dX8_takes_63 : decode cX8_takes 63 = .ok (.iload_n 2, 1) := by decide +kernel
theorem dX8_takes_64 : decode cX8_takes 64 = .ok (.iload_n 3, 1) := by decide +kernel
theorem dX8_takes_65 : decode cX8_takes 65 = .ok (.iload 4, 2) := by decide +kernel
theorem dX8_takes_67 : decode cX8_takes 67 = .ok (.invokevirtual 272, 3) := by decide +kernel
theorem dX8_takes_70 : decode cX8_takes 70 = .ok (.ifCond .eq 7, 3) := by decide +kernel
theorem dX8_takes_73 : decode cX8_takes 73 = .ok (.iconst 1, 1) := by decide +kernel
theorem dX8_takes_74 : decode cX8_takes 74 = .ok (.goto 4, 3) := by decide +kernel
theorem dX8_takes_77 : decode cX8_takes 77 = .ok (.iconst 0, 1) := by decide +kernel
theorem dX8_takes_78 : decode cX8_takes 78 = .ok (.ireturn, 1) := by decide +kernel
theorem f_m_start_rows : True := trivial
theorem dX8_start_0 : decode cX8_start 0 = .ok (.aload_n 0, 1) := by decide +kernel
theorem dX8_start_1 : decode cX8_start 1 = .ok (.iload_n 1, 1) := by decide +kernel
theorem dX8_start_2 : decode cX8_start 2 = .ok (.invokevirtual 206, 3) := by decide +kernel
theorem dX8_start_5 : decode cX8_start 5 = .ok (.ifCond .ne 7, 3) := by decide +kernel
theorem dX8_start_8 : decode cX8_start 8 = .ok (.sipush (-1001), 3) := by decide +kernel
theorem dX8_start_11 : decode cX8_start 11 = .ok (.ireturn, 1) := by decide +kernel
theorem dX8_start_12 : decode cX8_start 12 = .ok (.aload_n 0, 1) := by decide +kernel
theorem dX8_start_13 : decode cX8_start 13 = .ok (.iload_n 1, 1) := by decide +kernel
theorem dX8_start_14 : decode cX8_start 14 = .ok (.iload_n 2, 1) := by decide +kernel
theorem dX8_start_15 : decode cX8_start 15 = .ok (.invokevirtual 234, 3) := by decide +kernel
theorem dX8_start_18 : decode cX8_start 18 = .ok (.ifCond .ne 7, 3) := by decide +kernel
theorem dX8_start_21 : decode cX8_start 21 = .ok (.sipush (-1002), 3) := by decide +kernel
theorem dX8_start_24 : decode cX8_start 24 = .ok (.ireturn, 1) := by decide +kernel
theorem dX8_start_25 : decode cX8_start 25 = .ok (.aload_n 0, 1) := by decide +kernel
theorem dX8_start_26 : decode cX8_start 26 = .ok (.iload_n 1, 1) := by decide +kernel
theorem dX8_start_27 : decode cX8_start 27 = .ok (.invokevirtual 268, 3) := by decide +kernel
theorem dX8_start_30 : decode cX8_start 30 = .ok (.aload_n 0, 1) := by decide +kernel
theorem dX8_start_31 : decode cX8_start 31 = .ok (.getfield 44, 3) := by decide +kernel
theorem dX8_start_34 : decode cX8_start 34 = .ok (.iload_n 2, 1) := by decide +kernel
theorem dX8_start_35 : decode cX8_start 35 = .ok (.iaload, 1) := by decide +kernel
theorem dX8_start_36 : decode cX8_start 36 = .ok (.ireturn, 1) := by decide +kernel
theorem f_m_end_rows : True := trivial
theorem dX8_end_0 : decode cX8_end 0 = .ok (.aload_n 0, 1) := by decide +kernel
theorem dX8_end_1 : decode cX8_end 1 = .ok (.iload_n 1, 1) := by decide +kernel
theorem dX8_end_2 : decode cX8_end 2 = .ok (.invokevirtual 206, 3) := by decide +kernel
theorem dX8_end_5 : decode cX8_end 5 = .ok (.ifCond .ne 7, 3) := by decide +kernel
theorem dX8_end_8 : decode cX8_end 8 = .ok (.sipush (-1001), 3) := by decide +kernel
theorem dX8_end_11 : decode cX8_end 11 = .ok (.ireturn, 1) := by decide +kernel
theorem dX8_end_12 : decode cX8_end 12 = .ok (.aload_n 0, 1) := by decide +kernel
theorem dX8_end_13 : decode cX8_end 13 = .ok (.iload_n 1, 1) := by decide +kernel
theorem dX8_end_14 : decode cX8_end 14 = .ok (.iload_n 2, 1) := by decide +kernel
theorem dX8_end_15 : decode cX8_end 15 = .ok (.invokevirtual 234, 3) := by decide +kernel
theorem dX8_end_18 : decode cX8_end 18 = .ok (.ifCond .eq 13, 3) := by decide +kernel
theorem dX8_end_21 : decode cX8_end 21 = .ok (.iload_n 3, 1) := by decide +kernel
theorem dX8_end_22 : decode cX8_end 22 = .ok (.i2l, 1) := by decide +kernel
theorem dX8_end_23 : decode cX8_end 23 = .ok (.lconst 0, 1) := by decide +kernel
theorem dX8_end_24 : decode cX8_end 24 = .ok (.lconst 1, 1) := by decide +kernel
theorem dX8_end_25 : decode cX8_end 25 = .ok (.invokestatic 107, 3) := by decide +kernel
theorem dX8_end_28 : decode cX8_end 28 = .ok (.ifCond .ne 7, 3) := by decide +kernel
theorem dX8_end_31 : decode cX8_end 31 = .ok (.sipush (-1002), 3) := by decide +kernel
theorem dX8_end_34 : decode cX8_end 34 = .ok (.ireturn, 1) := by decide +kernel
theorem dX8_end_35 : decode cX8_end 35 = .ok (.aload_n 0, 1) := by decide +kernel
theorem dX8_end_36 : decode cX8_end 36 = .ok (.iload_n 1, 1) := by decide +kernel
theorem dX8_end_37 : decode cX8_end 37 = .ok (.invokevirtual 268, 3) := by decide +kernel
theorem dX8_end_40 : decode cX8_end 40 = .ok (.iload_n 3, 1) := by decide +kernel
theorem dX8_end_41 : decode cX8_end 41 = .ok (.ifCond .ne 12, 3) := by decide +kernel
theorem dX8_end_44 : decode cX8_end 44 = .ok (.aload_n 0, 1) := by decide +kernel
theorem dX8_end_45 : decode cX8_end 45 = .ok (.getfield 47, 3) := by decide +kernel
theorem dX8_end_48 : decode cX8_end 48 = .ok (.iload_n 2, 1) := by decide +kernel
theorem dX8_end_49 : decode cX8_end 49 = .ok (.iaload, 1) := by decide +kernel
theorem dX8_end_50 : decode cX8_end 50 = .ok (.goto 17, 3) := by decide +kernel
theorem dX8_end_53 : decode cX8_end 53 = .ok (.aload_n 0, 1) := by decide +kernel
theorem dX8_end_54 : decode cX8_end 54 = .ok (.getfield 50, 3) := by decide +kernel
theorem dX8_end_57 : decode cX8_end 57 = .ok (.iload_n 2, 1) := by decide +kernel
theorem dX8_end_58 : decode cX8_end 58 = .ok (.baload, 1) := by decide +kernel
theorem dX8_end_59 : decode cX8_end 59 = .ok (.ifCond .eq 7, 3) := by decide +kernel
theorem dX8_end_62 : decode cX8_end 62 = .ok (.iconst 1, 1) := by decide +kernel
theorem dX8_end_63 : decode cX8_end 63 = .ok (.goto 4, 3) := by decide +kernel
theorem dX8_end_66 : decode cX8_end 66 = .ok (.iconst 0, 1) := by decide +kernel
theorem dX8_end_67 : decode cX8_end 67 = .ok (.ireturn, 1) := by decide +kernel
theorem f_m_which_rows : True := trivial
theorem dX8_which_0 : decode cX8_which 0 = .ok (.aload_n 0, 1) := by decide +kernel
theorem dX8_which_1 : decode cX8_which 1 = .ok (.iload_n 1, 1) := by decide +kernel
theorem dX8_which_2 : decode cX8_which 2 = .ok (.invokevirtual 206, 3) := by decide +kernel
theorem dX8_which_5 : decode cX8_which 5 = .ok (.ifCond .eq 11, 3) := by decide +kernel
theorem dX8_which_8 : decode cX8_which 8 = .ok (.aload_n 0, 1) := by decide +kernel
theorem dX8_which_9 : decode cX8_which 9 = .ok (.iload_n 2, 1) := by decide +kernel
theorem dX8_which_10 : decode cX8_which 10 = .ok (.invokevirtual 206, 3) := by decide +kernel
theorem dX8_which_13 : decode cX8_which 13 = .ok (.ifCond .ne 7, 3) := by decide +kernel
theorem dX8_which_16 : decode cX8_which 16 = .ok (.sipush (-1001), 3) := by decide +kernel
theorem dX8_which_19 : decode cX8_which 19 = .ok (.ireturn, 1) := by decide +kernel
theorem dX8_which_20 : decode cX8_which 20 = .ok (.aload_n 0, 1) := by decide +kernel
theorem dX8_which_21 : decode cX8_which 21 = .ok (.iload_n 1, 1) := by decide +kernel
theorem dX8_which_22 : decode cX8_which 22 = .ok (.invokevirtual 268, 3) := by decide +kernel
theorem dX8_which_25 : decode cX8_which 25 = .ok (.aload_n 0, 1) := by decide +kernel
theorem dX8_which_26 : decode cX8_which 26 = .ok (.getfield 44, 3) := by decide +kernel
theorem dX8_which_29 : decode cX8_which 29 = .ok (.iconst 0, 1) := by decide +kernel
theorem dX8_which_30 : decode cX8_which 30 = .ok (.iaload, 1) := by decide +kernel
theorem dX8_which_31 : decode cX8_which 31 = .ok (.istore_n 3, 1) := by decide +kernel
theorem dX8_which_32 : decode cX8_which 32 = .ok (.aload_n 0, 1) := by decide +kernel
theorem dX8_which_33 : decode cX8_which 33 = .ok (.iload_n 2, 1) := by decide +kernel
theorem dX8_which_34 : decode cX8_which 34 = .ok (.invokevirtual 268, 3) := by decide +kernel
theorem dX8_which_37 : decode cX8_which 37 = .ok (.aload_n 0, 1) := by decide +kernel
theorem dX8_which_38 : decode cX8_which 38 = .ok (.getfield 44, 3) := by decide +kernel
theorem dX8_which_41 : decode cX8_which 41 = .ok (.iconst 0, 1) := by decide +kernel
theorem dX8_which_42 : decode cX8_which 42 = .ok (.iaload, 1) := by decide +kernel
theorem dX8_which_43 : decode cX8_which 43 = .ok (.iload_n 3, 1) := by decide +kernel
theorem dX8_which_44 : decode cX8_which 44 = .ok (.if_icmp .ge 7, 3) := by decide +kernel
theorem dX8_which_47 : decode cX8_which 47 = .ok (.iload_n 2, 1) := by decide +kernel
theorem dX8_which_48 : decode cX8_which 48 = .ok (.goto 4, 3) := by decide +kernel
theorem dX8_which_51 : decode cX8_which 51 = .ok (.iload_n 1, 1) := by decide +kernel
theorem dX8_which_52 : decode cX8_which 52 = .ok (.ireturn, 1) := by decide +kernel
theorem f_m_clear_rows : True := trivial
theorem dX8_clear_0 : decode cX8_clear 0 = .ok (.aload_n 0, 1) := by decide +kernel
theorem dX8_clear_1 : decode cX8_clear 1 = .ok (.getfield 304, 3) := by decide +kernel
theorem dX8_clear_4 : decode cX8_clear 4 = .ok (.istore_n 1, 1) := by decide +kernel
theorem dX8_clear_5 : decode cX8_clear 5 = .ok (.aload_n 0, 1) := by decide +kernel
theorem dX8_clear_6 : decode cX8_clear 6 = .ok (.iconst 0, 1) := by decide +kernel
theorem dX8_clear_7 : decode cX8_clear 7 = .ok (.putfield 304, 3) := by decide +kernel
theorem dX8_clear_10 : decode cX8_clear 10 = .ok (.iload_n 1, 1) := by decide +kernel
theorem dX8_clear_11 : decode cX8_clear 11 = .ok (.ireturn, 1) := by decide +kernel
theorem f_m_seed_rows : True := trivial
theorem dX8_seed_0 : decode cX8_seed 0 = .ok (.iload_n 1, 1) := by decide +kernel
theorem dX8_seed_1 : decode cX8_seed 1 = .ok (.ifCond .ge 7, 3) := by decide +kernel
theorem dX8_seed_4 : decode cX8_seed 4 = .ok (.sipush (-1002), 3) := by decide +kernel
theorem dX8_seed_7 : decode cX8_seed 7 = .ok (.ireturn, 1) := by decide +kernel
theorem dX8_seed_8 : decode cX8_seed 8 = .ok (.aload_n 0, 1) := by decide +kernel
theorem dX8_seed_9 : decode cX8_seed 9 = .ok (.getfield 374, 3) := by decide +kernel
theorem dX8_seed_12 : decode cX8_seed 12 = .ok (.istore_n 2, 1) := by decide +kernel
theorem dX8_seed_13 : decode cX8_seed 13 = .ok (.aload_n 0, 1) := by decide +kernel
theorem dX8_seed_14 : decode cX8_seed 14 = .ok (.iload_n 1, 1) := by decide +kernel
theorem dX8_seed_15 : decode cX8_seed 15 = .ok (.putfield 374, 3) := by decide +kernel
theorem dX8_seed_18 : decode cX8_seed 18 = .ok (.iload_n 2, 1) := by decide +kernel
theorem dX8_seed_19 : decode cX8_seed 19 = .ok (.ireturn, 1) := by decide +kernel
theorem f_m_saw_rows : True := trivial
theorem dX8_saw_0 : decode cX8_saw 0 = .ok (.aload_n 0, 1) := by decide +kernel
theorem dX8_saw_1 : decode cX8_saw 1 = .ok (.getfield 304, 3) := by decide +kernel
theorem dX8_saw_4 : decode cX8_saw 4 = .ok (.bipush 24, 2) := by decide +kernel
theorem dX8_saw_6 : decode cX8_saw 6 = .ok (.if_icmp .ne 7, 3) := by decide +kernel
theorem dX8_saw_9 : decode cX8_saw 9 = .ok (.sipush (-1004), 3) := by decide +kernel
theorem dX8_saw_12 : decode cX8_saw 12 = .ok (.ireturn, 1) := by decide +kernel
theorem dX8_saw_13 : decode cX8_saw 13 = .ok (.aload_n 0, 1) := by decide +kernel
theorem dX8_saw_14 : decode cX8_saw 14 = .ok (.getfield 75, 3) := by decide +kernel
theorem dX8_saw_17 : decode cX8_saw 17 = .ok (.aload_n 0, 1) := by decide +kernel
theorem dX8_saw_18 : decode cX8_saw 18 = .ok (.getfield 304, 3) := by decide +kernel
theorem dX8_saw_21 : decode cX8_saw 21 = .ok (.iload_n 1, 1) := by decide +kernel
theorem dX8_saw_22 : decode cX8_saw 22 = .ok (.bastore, 1) := by decide +kernel
theorem dX8_saw_23 : decode cX8_saw 23 = .ok (.aload_n 0, 1) := by decide +kernel
theorem dX8_saw_24 : decode cX8_saw 24 = .ok (.dup, 1) := by decide +kernel
theorem dX8_saw_25 : decode cX8_saw 25 = .ok (.getfield 304, 3) := by decide +kernel
theorem dX8_saw_28 : decode cX8_saw 28 = .ok (.iconst 1, 1) := by decide +kernel
theorem dX8_saw_29 : decode cX8_saw 29 = .ok (.iadd, 1) := by decide +kernel
theorem dX8_saw_30 : decode cX8_saw 30 = .ok (.putfield 304, 3) := by decide +kernel
theorem dX8_saw_33 : decode cX8_saw 33 = .ok (.aload_n 0, 1) := by decide +kernel
theorem dX8_saw_34 : decode cX8_saw 34 = .ok (.getfield 304, 3) := by decide +kernel
theorem dX8_saw_37 : decode cX8_saw 37 = .ok (.ireturn, 1) := by decide +kernel

theorem f_x_reckonNext_rows : True := trivial
theorem dX0_reckonNext_0 : decode cX0_reckonNext 0 = .ok (.aload_n 0, 1) := by decide +kernel
theorem dX0_reckonNext_1 : decode cX0_reckonNext 1 = .ok (.getfield 24, 3) := by decide +kernel
theorem dX0_reckonNext_4 : decode cX0_reckonNext 4 = .ok (.getfield 28, 3) := by decide +kernel
theorem dX0_reckonNext_7 : decode cX0_reckonNext 7 = .ok (.bipush 6, 2) := by decide +kernel
theorem dX0_reckonNext_9 : decode cX0_reckonNext 9 = .ok (.iaload, 1) := by decide +kernel
theorem dX0_reckonNext_10 : decode cX0_reckonNext 10 = .ok (.istore 4, 2) := by decide +kernel
theorem dX0_reckonNext_12 : decode cX0_reckonNext 12 = .ok (.iload_n 2, 1) := by decide +kernel
theorem dX0_reckonNext_13 : decode cX0_reckonNext 13 = .ok (.iconst 1, 1) := by decide +kernel
theorem dX0_reckonNext_14 : decode cX0_reckonNext 14 = .ok (.iadd, 1) := by decide +kernel
theorem dX0_reckonNext_15 : decode cX0_reckonNext 15 = .ok (.istore 5, 2) := by decide +kernel
theorem dX0_reckonNext_17 : decode cX0_reckonNext 17 = .ok (.iload_n 3, 1) := by decide +kernel
theorem dX0_reckonNext_18 : decode cX0_reckonNext 18 = .ok (.iconst 1, 1) := by decide +kernel
theorem dX0_reckonNext_19 : decode cX0_reckonNext 19 = .ok (.ishr, 1) := by decide +kernel
theorem dX0_reckonNext_20 : decode cX0_reckonNext 20 = .ok (.istore 6, 2) := by decide +kernel
theorem dX0_reckonNext_22 : decode cX0_reckonNext 22 = .ok (.iload 5, 2) := by decide +kernel
theorem dX0_reckonNext_24 : decode cX0_reckonNext 24 = .ok (.iload 4, 2) := by decide +kernel
theorem dX0_reckonNext_26 : decode cX0_reckonNext 26 = .ok (.iadd, 1) := by decide +kernel
theorem dX0_reckonNext_27 : decode cX0_reckonNext 27 = .ok (.aload_n 0, 1) := by decide +kernel
theorem dX0_reckonNext_28 : decode cX0_reckonNext 28 = .ok (.getfield 24, 3) := by decide +kernel
theorem dX0_reckonNext_31 : decode cX0_reckonNext 31 = .ok (.invokevirtual 37, 3) := by decide +kernel
theorem dX0_reckonNext_34 : decode cX0_reckonNext 34 = .ok (.if_icmp .lt 13, 3) := by decide +kernel
theorem dX0_reckonNext_37 : decode cX0_reckonNext 37 = .ok (.aload_n 0, 1) := by decide +kernel
theorem dX0_reckonNext_38 : decode cX0_reckonNext 38 = .ok (.iload_n 1, 1) := by decide +kernel
theorem dX0_reckonNext_39 : decode cX0_reckonNext 39 = .ok (.iload 5, 2) := by decide +kernel
theorem dX0_reckonNext_41 : decode cX0_reckonNext 41 = .ok (.iload 6, 2) := by decide +kernel
theorem dX0_reckonNext_43 : decode cX0_reckonNext 43 = .ok (.invokevirtual 73, 3) := by decide +kernel
theorem dX0_reckonNext_46 : decode cX0_reckonNext 46 = .ok (.ireturn, 1) := by decide +kernel
theorem dX0_reckonNext_47 : decode cX0_reckonNext 47 = .ok (.aload_n 0, 1) := by decide +kernel
theorem dX0_reckonNext_48 : decode cX0_reckonNext 48 = .ok (.getfield 24, 3) := by decide +kernel
theorem dX0_reckonNext_51 : decode cX0_reckonNext 51 = .ok (.iload 5, 2) := by decide +kernel
theorem dX0_reckonNext_53 : decode cX0_reckonNext 53 = .ok (.iload 4, 2) := by decide +kernel
theorem dX0_reckonNext_55 : decode cX0_reckonNext 55 = .ok (.iadd, 1) := by decide +kernel
theorem dX0_reckonNext_56 : decode cX0_reckonNext 56 = .ok (.iload_n 3, 1) := by decide +kernel
theorem dX0_reckonNext_57 : decode cX0_reckonNext 57 = .ok (.iload 4, 2) := by decide +kernel
theorem dX0_reckonNext_59 : decode cX0_reckonNext 59 = .ok (.ishr, 1) := by decide +kernel
theorem dX0_reckonNext_60 : decode cX0_reckonNext 60 = .ok (.iconst 1, 1) := by decide +kernel
theorem dX0_reckonNext_61 : decode cX0_reckonNext 61 = .ok (.iand, 1) := by decide +kernel
theorem dX0_reckonNext_62 : decode cX0_reckonNext 62 = .ok (.ifCond .eq 7, 3) := by decide +kernel
theorem dX0_reckonNext_65 : decode cX0_reckonNext 65 = .ok (.iconst 1, 1) := by decide +kernel
theorem dX0_reckonNext_66 : decode cX0_reckonNext 66 = .ok (.goto 4, 3) := by decide +kernel
theorem dX0_reckonNext_69 : decode cX0_reckonNext 69 = .ok (.iconst 0, 1) := by decide +kernel
theorem dX0_reckonNext_70 : decode cX0_reckonNext 70 = .ok (.invokevirtual 76, 3) := by decide +kernel
theorem dX0_reckonNext_73 : decode cX0_reckonNext 73 = .ok (.istore 7, 2) := by decide +kernel
theorem dX0_reckonNext_75 : decode cX0_reckonNext 75 = .ok (.iload 7, 2) := by decide +kernel
theorem dX0_reckonNext_77 : decode cX0_reckonNext 77 = .ok (.aload_n 0, 1) := by decide +kernel
theorem dX0_reckonNext_78 : decode cX0_reckonNext 78 = .ok (.iload_n 1, 1) := by decide +kernel
theorem dX0_reckonNext_79 : decode cX0_reckonNext 79 = .ok (.iload 5, 2) := by decide +kernel
theorem dX0_reckonNext_81 : decode cX0_reckonNext 81 = .ok (.iload 6, 2) := by decide +kernel
theorem dX0_reckonNext_83 : decode cX0_reckonNext 83 = .ok (.iconst 1, 1) := by decide +kernel
theorem dX0_reckonNext_84 : decode cX0_reckonNext 84 = .ok (.iload 4, 2) := by decide +kernel
theorem dX0_reckonNext_86 : decode cX0_reckonNext 86 = .ok (.ishl, 1) := by decide +kernel
theorem dX0_reckonNext_87 : decode cX0_reckonNext 87 = .ok (.ior, 1) := by decide +kernel
theorem dX0_reckonNext_88 : decode cX0_reckonNext 88 = .ok (.invokevirtual 73, 3) := by decide +kernel
theorem dX0_reckonNext_91 : decode cX0_reckonNext 91 = .ok (.aload_n 0, 1) := by decide +kernel
theorem dX0_reckonNext_92 : decode cX0_reckonNext 92 = .ok (.iload_n 1, 1) := by decide +kernel
theorem dX0_reckonNext_93 : decode cX0_reckonNext 93 = .ok (.iload 5, 2) := by decide +kernel
theorem dX0_reckonNext_95 : decode cX0_reckonNext 95 = .ok (.iload 6, 2) := by decide +kernel
theorem dX0_reckonNext_97 : decode cX0_reckonNext 97 = .ok (.invokevirtual 73, 3) := by decide +kernel
theorem dX0_reckonNext_100 : decode cX0_reckonNext 100 = .ok (.invokestatic 80, 3) := by decide +kernel
theorem dX0_reckonNext_103 : decode cX0_reckonNext 103 = .ok (.ireturn, 1) := by decide +kernel
theorem f_x_reckonDoor_rows : True := trivial
theorem dX0_reckonDoor_0 : decode cX0_reckonDoor 0 = .ok (.iload_n 2, 1) := by decide +kernel
theorem dX0_reckonDoor_1 : decode cX0_reckonDoor 1 = .ok (.aload_n 0, 1) := by decide +kernel
theorem dX0_reckonDoor_2 : decode cX0_reckonDoor 2 = .ok (.getfield 24, 3) := by decide +kernel
theorem dX0_reckonDoor_5 : decode cX0_reckonDoor 5 = .ok (.invokevirtual 37, 3) := by decide +kernel
theorem dX0_reckonDoor_8 : decode cX0_reckonDoor 8 = .ok (.iconst 1, 1) := by decide +kernel
theorem dX0_reckonDoor_9 : decode cX0_reckonDoor 9 = .ok (.isub, 1) := by decide +kernel
theorem dX0_reckonDoor_10 : decode cX0_reckonDoor 10 = .ok (.if_icmp .ne 7, 3) := by decide +kernel
theorem dX0_reckonDoor_13 : decode cX0_reckonDoor 13 = .ok (.iconst 1, 1) := by decide +kernel
theorem dX0_reckonDoor_14 : decode cX0_reckonDoor 14 = .ok (.goto 4, 3) := by decide +kernel
theorem dX0_reckonDoor_17 : decode cX0_reckonDoor 17 = .ok (.iconst 0, 1) := by decide +kernel
theorem dX0_reckonDoor_18 : decode cX0_reckonDoor 18 = .ok (.istore_n 3, 1) := by decide +kernel
theorem dX0_reckonDoor_19 : decode cX0_reckonDoor 19 = .ok (.iconst 0, 1) := by decide +kernel
theorem dX0_reckonDoor_20 : decode cX0_reckonDoor 20 = .ok (.istore 4, 2) := by decide +kernel
theorem dX0_reckonDoor_22 : decode cX0_reckonDoor 22 = .ok (.iload 4, 2) := by decide +kernel
theorem dX0_reckonDoor_24 : decode cX0_reckonDoor 24 = .ok (.aload_n 0, 1) := by decide +kernel
theorem dX0_reckonDoor_25 : decode cX0_reckonDoor 25 = .ok (.getfield 24, 3) := by decide +kernel
theorem dX0_reckonDoor_28 : decode cX0_reckonDoor 28 = .ok (.iload_n 2, 1) := by decide +kernel
theorem dX0_reckonDoor_29 : decode cX0_reckonDoor 29 = .ok (.invokevirtual 60, 3) := by decide +kernel
theorem dX0_reckonDoor_32 : decode cX0_reckonDoor 32 = .ok (.if_icmp .ge 54, 3) := by decide +kernel
theorem dX0_reckonDoor_35 : decode cX0_reckonDoor 35 = .ok (.iload_n 3, 1) := by decide +kernel
theorem dX0_reckonDoor_36 : decode cX0_reckonDoor 36 = .ok (.ifCond .eq 12, 3) := by decide +kernel
theorem dX0_reckonDoor_39 : decode cX0_reckonDoor 39 = .ok (.aload_n 0, 1) := by decide +kernel
theorem dX0_reckonDoor_40 : decode cX0_reckonDoor 40 = .ok (.getfield 18, 3) := by decide +kernel
theorem dX0_reckonDoor_43 : decode cX0_reckonDoor 43 = .ok (.iload_n 1, 1) := by decide +kernel
theorem dX0_reckonDoor_44 : decode cX0_reckonDoor 44 = .ok (.iaload, 1) := by decide +kernel
theorem dX0_reckonDoor_45 : decode cX0_reckonDoor 45 = .ok (.goto 11, 3) := by decide +kernel
theorem dX0_reckonDoor_48 : decode cX0_reckonDoor 48 = .ok (.aload_n 0, 1) := by decide +kernel
theorem dX0_reckonDoor_49 : decode cX0_reckonDoor 49 = .ok (.iload_n 1, 1) := by decide +kernel
theorem dX0_reckonDoor_50 : decode cX0_reckonDoor 50 = .ok (.iload_n 2, 1) := by decide +kernel
theorem dX0_reckonDoor_51 : decode cX0_reckonDoor 51 = .ok (.iload 4, 2) := by decide +kernel
theorem dX0_reckonDoor_53 : decode cX0_reckonDoor 53 = .ok (.invokevirtual 63, 3) := by decide +kernel
theorem dX0_reckonDoor_56 : decode cX0_reckonDoor 56 = .ok (.istore 5, 2) := by decide +kernel
theorem dX0_reckonDoor_58 : decode cX0_reckonDoor 58 = .ok (.aload_n 0, 1) := by decide +kernel
theorem dX0_reckonDoor_59 : decode cX0_reckonDoor 59 = .ok (.getfield 9, 3) := by decide +kernel
theorem dX0_reckonDoor_62 : decode cX0_reckonDoor 62 = .ok (.iload_n 1, 1) := by decide +kernel
theorem dX0_reckonDoor_63 : decode cX0_reckonDoor 63 = .ok (.iload_n 2, 1) := by decide +kernel
theorem dX0_reckonDoor_64 : decode cX0_reckonDoor 64 = .ok (.iload 4, 2) := by decide +kernel
theorem dX0_reckonDoor_66 : decode cX0_reckonDoor 66 = .ok (.invokestatic 67, 3) := by decide +kernel
theorem dX0_reckonDoor_69 : decode cX0_reckonDoor 69 = .ok (.aload_n 0, 1) := by decide +kernel
theorem dX0_reckonDoor_70 : decode cX0_reckonDoor 70 = .ok (.getfield 24, 3) := by decide +kernel
theorem dX0_reckonDoor_73 : decode cX0_reckonDoor 73 = .ok (.invokevirtual 70, 3) := by decide +kernel
theorem dX0_reckonDoor_76 : decode cX0_reckonDoor 76 = .ok (.iload 5, 2) := by decide +kernel
theorem dX0_reckonDoor_78 : decode cX0_reckonDoor 78 = .ok (.iadd, 1) := by decide +kernel
theorem dX0_reckonDoor_79 : decode cX0_reckonDoor 79 = .ok (.iastore, 1) := by decide +kernel
theorem dX0_reckonDoor_80 : decode cX0_reckonDoor 80 = .ok (.iinc 4 1, 3) := by decide +kernel
theorem dX0_reckonDoor_83 : decode cX0_reckonDoor 83 = .ok (.goto (-61), 3) := by decide +kernel
theorem dX0_reckonDoor_86 : decode cX0_reckonDoor 86 = .ok (.return_, 1) := by decide +kernel
theorem f_x_reckonStart_rows : True := trivial
theorem dX0_reckonStart_0 : decode cX0_reckonStart 0 = .ok (.aload_n 0, 1) := by decide +kernel
theorem dX0_reckonStart_1 : decode cX0_reckonStart 1 = .ok (.getfield 24, 3) := by decide +kernel
theorem dX0_reckonStart_4 : decode cX0_reckonStart 4 = .ok (.iconst 0, 1) := by decide +kernel
theorem dX0_reckonStart_5 : decode cX0_reckonStart 5 = .ok (.invokevirtual 60, 3) := by decide +kernel
theorem dX0_reckonStart_8 : decode cX0_reckonStart 8 = .ok (.istore_n 2, 1) := by decide +kernel
theorem dX0_reckonStart_9 : decode cX0_reckonStart 9 = .ok (.iconst 0, 1) := by decide +kernel
theorem dX0_reckonStart_10 : decode cX0_reckonStart 10 = .ok (.istore_n 3, 1) := by decide +kernel
theorem dX0_reckonStart_11 : decode cX0_reckonStart 11 = .ok (.iload_n 3, 1) := by decide +kernel
theorem dX0_reckonStart_12 : decode cX0_reckonStart 12 = .ok (.iload_n 2, 1) := by decide +kernel
theorem dX0_reckonStart_13 : decode cX0_reckonStart 13 = .ok (.if_icmp .ge 28, 3) := by decide +kernel
theorem dX0_reckonStart_16 : decode cX0_reckonStart 16 = .ok (.iload_n 3, 1) := by decide +kernel
theorem dX0_reckonStart_17 : decode cX0_reckonStart 17 = .ok (.bipush 8, 2) := by decide +kernel
theorem dX0_reckonStart_19 : decode cX0_reckonStart 19 = .ok (.if_icmp .ge 22, 3) := by decide +kernel
theorem dX0_reckonStart_22 : decode cX0_reckonStart 22 = .ok (.aload_n 0, 1) := by decide +kernel
theorem dX0_reckonStart_23 : decode cX0_reckonStart 23 = .ok (.getfield 21, 3) := by decide +kernel
theorem dX0_reckonStart_26 : decode cX0_reckonStart 26 = .ok (.iload_n 3, 1) := by decide +kernel
theorem dX0_reckonStart_27 : decode cX0_reckonStart 27 = .ok (.aload_n 0, 1) := by decide +kernel
theorem dX0_reckonStart_28 : decode cX0_reckonStart 28 = .ok (.iload_n 1, 1) := by decide +kernel
theorem dX0_reckonStart_29 : decode cX0_reckonStart 29 = .ok (.iconst 0, 1) := by decide +kernel
theorem dX0_reckonStart_30 : decode cX0_reckonStart 30 = .ok (.iload_n 3, 1) := by decide +kernel
theorem dX0_reckonStart_31 : decode cX0_reckonStart 31 = .ok (.invokevirtual 73, 3) := by decide +kernel
theorem dX0_reckonStart_34 : decode cX0_reckonStart 34 = .ok (.iastore, 1) := by decide +kernel
theorem dX0_reckonStart_35 : decode cX0_reckonStart 35 = .ok (.iinc 3 1, 3) := by decide +kernel
theorem dX0_reckonStart_38 : decode cX0_reckonStart 38 = .ok (.goto (-27), 3) := by decide +kernel
theorem dX0_reckonStart_41 : decode cX0_reckonStart 41 = .ok (.aload_n 0, 1) := by decide +kernel
theorem dX0_reckonStart_42 : decode cX0_reckonStart 42 = .ok (.getfield 24, 3) := by decide +kernel
theorem dX0_reckonStart_45 : decode cX0_reckonStart 45 = .ok (.getfield 28, 3) := by decide +kernel
theorem dX0_reckonStart_48 : decode cX0_reckonStart 48 = .ok (.bipush 6, 2) := by decide +kernel
theorem dX0_reckonStart_50 : decode cX0_reckonStart 50 = .ok (.iaload, 1) := by decide +kernel
theorem dX0_reckonStart_51 : decode cX0_reckonStart 51 = .ok (.istore_n 3, 1) := by decide +kernel
theorem dX0_reckonStart_52 : decode cX0_reckonStart 52 = .ok (.iload_n 3, 1) := by decide +kernel
theorem dX0_reckonStart_53 : decode cX0_reckonStart 53 = .ok (.ifCond .lt 95, 3) := by decide +kernel
theorem dX0_reckonStart_56 : decode cX0_reckonStart 56 = .ok (.iconst 1, 1) := by decide +kernel
theorem dX0_reckonStart_57 : decode cX0_reckonStart 57 = .ok (.iload_n 3, 1) := by decide +kernel
theorem dX0_reckonStart_58 : decode cX0_reckonStart 58 = .ok (.ishl, 1) := by decide +kernel
theorem dX0_reckonStart_59 : decode cX0_reckonStart 59 = .ok (.istore 4, 2) := by decide +kernel
theorem dX0_reckonStart_61 : decode cX0_reckonStart 61 = .ok (.iconst 0, 1) := by decide +kernel
theorem dX0_reckonStart_62 : decode cX0_reckonStart 62 = .ok (.istore 5, 2) := by decide +kernel
theorem dX0_reckonStart_64 : decode cX0_reckonStart 64 = .ok (.iload 4, 2) := by decide +kernel
theorem dX0_reckonStart_66 : decode cX0_reckonStart 66 = .ok (.iload_n 2, 1) := by decide +kernel
theorem dX0_reckonStart_67 : decode cX0_reckonStart 67 = .ok (.if_icmp .ge 75, 3) := by decide +kernel
theorem dX0_reckonStart_70 : decode cX0_reckonStart 70 = .ok (.iload 5, 2) := by decide +kernel
theorem dX0_reckonStart_72 : decode cX0_reckonStart 72 = .ok (.iload 4, 2) := by decide +kernel
theorem dX0_reckonStart_74 : decode cX0_reckonStart 74 = .ok (.if_icmp .ge 68, 3) := by decide +kernel
theorem dX0_reckonStart_77 : decode cX0_reckonStart 77 = .ok (.iload_n 3, 1) := by decide +kernel
theorem dX0_reckonStart_78 : decode cX0_reckonStart 78 = .ok (.ifCond .le 18, 3) := by decide +kernel
theorem dX0_reckonStart_81 : decode cX0_reckonStart 81 = .ok (.iload 5, 2) := by decide +kernel
theorem dX0_reckonStart_83 : decode cX0_reckonStart 83 = .ok (.iload_n 3, 1) := by decide +kernel
theorem dX0_reckonStart_84 : decode cX0_reckonStart 84 = .ok (.iconst 1, 1) := by decide +kernel
theorem dX0_reckonStart_85 : decode cX0_reckonStart 85 = .ok (.isub, 1) := by decide +kernel
theorem dX0_reckonStart_86 : decode cX0_reckonStart 86 = .ok (.ishr, 1) := by decide +kernel
theorem dX0_reckonStart_87 : decode cX0_reckonStart 87 = .ok (.iconst 1, 1) := by decide +kernel
theorem dX0_reckonStart_88 : decode cX0_reckonStart 88 = .ok (.iand, 1) := by decide +kernel
theorem dX0_reckonStart_89 : decode cX0_reckonStart 89 = .ok (.ifCond .eq 7, 3) := by decide +kernel
theorem dX0_reckonStart_92 : decode cX0_reckonStart 92 = .ok (.iconst 1, 1) := by decide +kernel
theorem dX0_reckonStart_93 : decode cX0_reckonStart 93 = .ok (.goto 4, 3) := by decide +kernel
theorem dX0_reckonStart_96 : decode cX0_reckonStart 96 = .ok (.iconst 0, 1) := by decide +kernel
theorem dX0_reckonStart_97 : decode cX0_reckonStart 97 = .ok (.istore 6, 2) := by decide +kernel
theorem dX0_reckonStart_99 : decode cX0_reckonStart 99 = .ok (.aload_n 0, 1) := by decide +kernel
theorem dX0_reckonStart_100 : decode cX0_reckonStart 100 = .ok (.getfield 21, 3) := by decide +kernel
theorem dX0_reckonStart_103 : decode cX0_reckonStart 103 = .ok (.iload 5, 2) := by decide +kernel
theorem dX0_reckonStart_105 : decode cX0_reckonStart 105 = .ok (.aload_n 0, 1) := by decide +kernel
theorem dX0_reckonStart_106 : decode cX0_reckonStart 106 = .ok (.getfield 24, 3) := by decide +kernel
theorem dX0_reckonStart_109 : decode cX0_reckonStart 109 = .ok (.iload_n 3, 1) := by decide +kernel
theorem dX0_reckonStart_110 : decode cX0_reckonStart 110 = .ok (.iload 6, 2) := by decide +kernel
theorem dX0_reckonStart_112 : decode cX0_reckonStart 112 = .ok (.invokevirtual 76, 3) := by decide +kernel
theorem dX0_reckonStart_115 : decode cX0_reckonStart 115 = .ok (.aload_n 0, 1) := by decide +kernel
theorem dX0_reckonStart_116 : decode cX0_reckonStart 116 = .ok (.getfield 21, 3) := by decide +kernel
theorem dX0_reckonStart_119 : decode cX0_reckonStart 119 = .ok (.iload 5, 2) := by decide +kernel
theorem dX0_reckonStart_121 : decode cX0_reckonStart 121 = .ok (.iload 4, 2) := by decide +kernel
theorem dX0_reckonStart_123 : decode cX0_reckonStart 123 = .ok (.ior, 1) := by decide +kernel
theorem dX0_reckonStart_124 : decode cX0_reckonStart 124 = .ok (.iaload, 1) := by decide +kernel
theorem dX0_reckonStart_125 : decode cX0_reckonStart 125 = .ok (.aload_n 0, 1) := by decide +kernel
theorem dX0_reckonStart_126 : decode cX0_reckonStart 126 = .ok (.getfield 21, 3) := by decide +kernel
theorem dX0_reckonStart_129 : decode cX0_reckonStart 129 = .ok (.iload 5, 2) := by decide +kernel
theorem dX0_reckonStart_131 : decode cX0_reckonStart 131 = .ok (.iaload, 1) := by decide +kernel
theorem dX0_reckonStart_132 : decode cX0_reckonStart 132 = .ok (.invokestatic 80, 3) := by decide +kernel
theorem dX0_reckonStart_135 : decode cX0_reckonStart 135 = .ok (.iastore, 1) := by decide +kernel
theorem dX0_reckonStart_136 : decode cX0_reckonStart 136 = .ok (.iinc 5 1, 3) := by decide +kernel
theorem dX0_reckonStart_139 : decode cX0_reckonStart 139 = .ok (.goto (-75), 3) := by decide +kernel
theorem dX0_reckonStart_142 : decode cX0_reckonStart 142 = .ok (.iinc 3 (-1), 3) := by decide +kernel
theorem dX0_reckonStart_145 : decode cX0_reckonStart 145 = .ok (.goto (-93), 3) := by decide +kernel
theorem dX0_reckonStart_148 : decode cX0_reckonStart 148 = .ok (.aload_n 0, 1) := by decide +kernel
theorem dX0_reckonStart_149 : decode cX0_reckonStart 149 = .ok (.getfield 21, 3) := by decide +kernel
theorem dX0_reckonStart_152 : decode cX0_reckonStart 152 = .ok (.iconst 0, 1) := by decide +kernel
theorem dX0_reckonStart_153 : decode cX0_reckonStart 153 = .ok (.iaload, 1) := by decide +kernel
theorem dX0_reckonStart_154 : decode cX0_reckonStart 154 = .ok (.ireturn, 1) := by decide +kernel
theorem f_x_reckon_rows : True := trivial
theorem dX0_reckon_0 : decode cX0_reckon 0 = .ok (.aload_n 0, 1) := by decide +kernel
theorem dX0_reckon_1 : decode cX0_reckon 1 = .ok (.getfield 24, 3) := by decide +kernel
theorem dX0_reckon_4 : decode cX0_reckon 4 = .ok (.getfield 28, 3) := by decide +kernel
theorem dX0_reckon_7 : decode cX0_reckon 7 = .ok (.bipush 8, 2) := by decide +kernel
theorem dX0_reckon_9 : decode cX0_reckon 9 = .ok (.iaload, 1) := by decide +kernel
theorem dX0_reckon_10 : decode cX0_reckon 10 = .ok (.istore_n 1, 1) := by decide +kernel
theorem dX0_reckon_11 : decode cX0_reckon 11 = .ok (.iload_n 1, 1) := by decide +kernel
theorem dX0_reckon_12 : decode cX0_reckon 12 = .ok (.ifCond .lt 57, 3) := by decide +kernel
theorem dX0_reckon_15 : decode cX0_reckon 15 = .ok (.aload_n 0, 1) := by decide +kernel
theorem dX0_reckon_16 : decode cX0_reckon 16 = .ok (.getfield 18, 3) := by decide +kernel
theorem dX0_reckon_19 : decode cX0_reckon 19 = .ok (.iload_n 1, 1) := by decide +kernel
theorem dX0_reckon_20 : decode cX0_reckon 20 = .ok (.aload_n 0, 1) := by decide +kernel
theorem dX0_reckon_21 : decode cX0_reckon 21 = .ok (.iload_n 1, 1) := by decide +kernel
theorem dX0_reckon_22 : decode cX0_reckon 22 = .ok (.invokevirtual 33, 3) := by decide +kernel
theorem dX0_reckon_25 : decode cX0_reckon 25 = .ok (.iastore, 1) := by decide +kernel
theorem dX0_reckon_26 : decode cX0_reckon 26 = .ok (.aload_n 0, 1) := by decide +kernel
theorem dX0_reckon_27 : decode cX0_reckon 27 = .ok (.getfield 24, 3) := by decide +kernel
theorem dX0_reckon_30 : decode cX0_reckon 30 = .ok (.invokevirtual 37, 3) := by decide +kernel
theorem dX0_reckon_33 : decode cX0_reckon 33 = .ok (.iconst 1, 1) := by decide +kernel
theorem dX0_reckon_34 : decode cX0_reckon 34 = .ok (.isub, 1) := by decide +kernel
theorem dX0_reckon_35 : decode cX0_reckon 35 = .ok (.istore_n 2, 1) := by decide +kernel
theorem dX0_reckon_36 : decode cX0_reckon 36 = .ok (.iload_n 2, 1) := by decide +kernel
theorem dX0_reckon_37 : decode cX0_reckon 37 = .ok (.ifCond .lt 15, 3) := by decide +kernel
theorem dX0_reckon_40 : decode cX0_reckon 40 = .ok (.aload_n 0, 1) := by decide +kernel
theorem dX0_reckon_41 : decode cX0_reckon 41 = .ok (.iload_n 1, 1) := by decide +kernel
theorem dX0_reckon_42 : decode cX0_reckon 42 = .ok (.iload_n 2, 1) := by decide +kernel
theorem dX0_reckon_43 : decode cX0_reckon 43 = .ok (.invokevirtual 41, 3) := by decide +kernel
theorem dX0_reckon_46 : decode cX0_reckon 46 = .ok (.iinc 2 (-1), 3) := by decide +kernel
theorem dX0_reckon_49 : decode cX0_reckon 49 = .ok (.goto (-13), 3) := by decide +kernel
theorem dX0_reckon_52 : decode cX0_reckon 52 = .ok (.aload_n 0, 1) := by decide +kernel
theorem dX0_reckon_53 : decode cX0_reckon 53 = .ok (.getfield 15, 3) := by decide +kernel
theorem dX0_reckon_56 : decode cX0_reckon 56 = .ok (.iload_n 1, 1) := by decide +kernel
theorem dX0_reckon_57 : decode cX0_reckon 57 = .ok (.aload_n 0, 1) := by decide +kernel
theorem dX0_reckon_58 : decode cX0_reckon 58 = .ok (.iload_n 1, 1) := by decide +kernel
theorem dX0_reckon_59 : decode cX0_reckon 59 = .ok (.invokevirtual 45, 3) := by decide +kernel
theorem dX0_reckon_62 : decode cX0_reckon 62 = .ok (.iastore, 1) := by decide +kernel
theorem dX0_reckon_63 : decode cX0_reckon 63 = .ok (.iinc 1 (-1), 3) := by decide +kernel
theorem dX0_reckon_66 : decode cX0_reckon 66 = .ok (.goto (-55), 3) := by decide +kernel
theorem dX0_reckon_69 : decode cX0_reckon 69 = .ok (.return_, 1) := by decide +kernel
theorem f_x_isTakenByAll_rows : True := trivial
theorem dX0_isTakenByAll_0 : decode cX0_isTakenByAll 0 = .ok (.iconst 1, 1) := by decide +kernel
theorem dX0_isTakenByAll_1 : decode cX0_isTakenByAll 1 = .ok (.istore_n 3, 1) := by decide +kernel
theorem dX0_isTakenByAll_2 : decode cX0_isTakenByAll 2 = .ok (.iload_n 3, 1) := by decide +kernel
theorem dX0_isTakenByAll_3 : decode cX0_isTakenByAll 3 = .ok (.aload_n 0, 1) := by decide +kernel
theorem dX0_isTakenByAll_4 : decode cX0_isTakenByAll 4 = .ok (.getfield 24, 3) := by decide +kernel
theorem dX0_isTakenByAll_7 : decode cX0_isTakenByAll 7 = .ok (.iload_n 2, 1) := by decide +kernel
theorem dX0_isTakenByAll_8 : decode cX0_isTakenByAll 8 = .ok (.invokevirtual 60, 3) := by decide +kernel
theorem dX0_isTakenByAll_11 : decode cX0_isTakenByAll 11 = .ok (.if_icmp .ge 21, 3) := by decide +kernel
theorem dX0_isTakenByAll_14 : decode cX0_isTakenByAll 14 = .ok (.aload_n 0, 1) := by decide +kernel
theorem dX0_isTakenByAll_15 : decode cX0_isTakenByAll 15 = .ok (.iload_n 1, 1) := by decide +kernel
theorem dX0_isTakenByAll_16 : decode cX0_isTakenByAll 16 = .ok (.iload_n 2, 1) := by decide +kernel
theorem dX0_isTakenByAll_17 : decode cX0_isTakenByAll 17 = .ok (.iload_n 3, 1) := by decide +kernel
theorem dX0_isTakenByAll_18 : decode cX0_isTakenByAll 18 = .ok (.invokevirtual 96, 3) := by decide +kernel
theorem dX0_isTakenByAll_21 : decode cX0_isTakenByAll 21 = .ok (.ifCond .ne 5, 3) := by decide +kernel
theorem dX0_isTakenByAll_24 : decode cX0_isTakenByAll 24 = .ok (.iconst 0, 1) := by decide +kernel
theorem dX0_isTakenByAll_25 : decode cX0_isTakenByAll 25 = .ok (.ireturn, 1) := by decide +kernel
theorem dX0_isTakenByAll_26 : decode cX0_isTakenByAll 26 = .ok (.iinc 3 2, 3) := by decide +kernel
theorem dX0_isTakenByAll_29 : decode cX0_isTakenByAll 29 = .ok (.goto (-27), 3) := by decide +kernel
theorem dX0_isTakenByAll_32 : decode cX0_isTakenByAll 32 = .ok (.iconst 1, 1) := by decide +kernel
theorem dX0_isTakenByAll_33 : decode cX0_isTakenByAll 33 = .ok (.ireturn, 1) := by decide +kernel
theorem f_x_isTakenByAny_rows : True := trivial
theorem dX0_isTakenByAny_0 : decode cX0_isTakenByAny 0 = .ok (.iconst 1, 1) := by decide +kernel
theorem dX0_isTakenByAny_1 : decode cX0_isTakenByAny 1 = .ok (.istore_n 3, 1) := by decide +kernel
theorem dX0_isTakenByAny_2 : decode cX0_isTakenByAny 2 = .ok (.iload_n 3, 1) := by decide +kernel
theorem dX0_isTakenByAny_3 : decode cX0_isTakenByAny 3 = .ok (.aload_n 0, 1) := by decide +kernel
theorem dX0_isTakenByAny_4 : decode cX0_isTakenByAny 4 = .ok (.getfield 24, 3) := by decide +kernel
theorem dX0_isTakenByAny_7 : decode cX0_isTakenByAny 7 = .ok (.iload_n 2, 1) := by decide +kernel
theorem dX0_isTakenByAny_8 : decode cX0_isTakenByAny 8 = .ok (.invokevirtual 60, 3) := by decide +kernel
theorem dX0_isTakenByAny_11 : decode cX0_isTakenByAny 11 = .ok (.if_icmp .ge 21, 3) := by decide +kernel
theorem dX0_isTakenByAny_14 : decode cX0_isTakenByAny 14 = .ok (.aload_n 0, 1) := by decide +kernel
theorem dX0_isTakenByAny_15 : decode cX0_isTakenByAny 15 = .ok (.iload_n 1, 1) := by decide +kernel
theorem dX0_isTakenByAny_16 : decode cX0_isTakenByAny 16 = .ok (.iload_n 2, 1) := by decide +kernel
theorem dX0_isTakenByAny_17 : decode cX0_isTakenByAny 17 = .ok (.iload_n 3, 1) := by decide +kernel
theorem dX0_isTakenByAny_18 : decode cX0_isTakenByAny 18 = .ok (.invokevirtual 96, 3) := by decide +kernel
theorem dX0_isTakenByAny_21 : decode cX0_isTakenByAny 21 = .ok (.ifCond .eq 5, 3) := by decide +kernel
theorem dX0_isTakenByAny_24 : decode cX0_isTakenByAny 24 = .ok (.iconst 1, 1) := by decide +kernel
theorem dX0_isTakenByAny_25 : decode cX0_isTakenByAny 25 = .ok (.ireturn, 1) := by decide +kernel
theorem dX0_isTakenByAny_26 : decode cX0_isTakenByAny 26 = .ok (.iinc 3 2, 3) := by decide +kernel
theorem dX0_isTakenByAny_29 : decode cX0_isTakenByAny 29 = .ok (.goto (-27), 3) := by decide +kernel
theorem dX0_isTakenByAny_32 : decode cX0_isTakenByAny 32 = .ok (.iconst 0, 1) := by decide +kernel
theorem dX0_isTakenByAny_33 : decode cX0_isTakenByAny 33 = .ok (.ireturn, 1) := by decide +kernel
theorem f_x_barOf_rows : True := trivial
theorem dX0_barOf_0 : decode cX0_barOf 0 = .ok (.aload_n 0, 1) := by decide +kernel
theorem dX0_barOf_1 : decode cX0_barOf 1 = .ok (.getfield 24, 3) := by decide +kernel
theorem dX0_barOf_4 : decode cX0_barOf 4 = .ok (.invokevirtual 37, 3) := by decide +kernel
theorem dX0_barOf_7 : decode cX0_barOf 7 = .ok (.istore_n 2, 1) := by decide +kernel
theorem dX0_barOf_8 : decode cX0_barOf 8 = .ok (.iload_n 2, 1) := by decide +kernel
theorem dX0_barOf_9 : decode cX0_barOf 9 = .ok (.ifCond .le 20, 3) := by decide +kernel
theorem dX0_barOf_12 : decode cX0_barOf 12 = .ok (.aload_n 0, 1) := by decide +kernel
theorem dX0_barOf_13 : decode cX0_barOf 13 = .ok (.iload_n 1, 1) := by decide +kernel
theorem dX0_barOf_14 : decode cX0_barOf 14 = .ok (.iload_n 2, 1) := by decide +kernel
theorem dX0_barOf_15 : decode cX0_barOf 15 = .ok (.iconst 1, 1) := by decide +kernel
theorem dX0_barOf_16 : decode cX0_barOf 16 = .ok (.isub, 1) := by decide +kernel
theorem dX0_barOf_17 : decode cX0_barOf 17 = .ok (.invokevirtual 89, 3) := by decide +kernel
theorem dX0_barOf_20 : decode cX0_barOf 20 = .ok (.ifCond .eq 9, 3) := by decide +kernel
theorem dX0_barOf_23 : decode cX0_barOf 23 = .ok (.iinc 2 (-1), 3) := by decide +kernel
theorem dX0_barOf_26 : decode cX0_barOf 26 = .ok (.goto (-18), 3) := by decide +kernel
theorem dX0_barOf_29 : decode cX0_barOf 29 = .ok (.iconst 0, 1) := by decide +kernel
theorem dX0_barOf_30 : decode cX0_barOf 30 = .ok (.istore_n 3, 1) := by decide +kernel
theorem dX0_barOf_31 : decode cX0_barOf 31 = .ok (.iload_n 3, 1) := by decide +kernel
theorem dX0_barOf_32 : decode cX0_barOf 32 = .ok (.iload_n 2, 1) := by decide +kernel
theorem dX0_barOf_33 : decode cX0_barOf 33 = .ok (.if_icmp .ge 20, 3) := by decide +kernel
theorem dX0_barOf_36 : decode cX0_barOf 36 = .ok (.aload_n 0, 1) := by decide +kernel
theorem dX0_barOf_37 : decode cX0_barOf 37 = .ok (.iload_n 1, 1) := by decide +kernel
theorem dX0_barOf_38 : decode cX0_barOf 38 = .ok (.iload_n 3, 1) := by decide +kernel
theorem dX0_barOf_39 : decode cX0_barOf 39 = .ok (.invokevirtual 93, 3) := by decide +kernel
theorem dX0_barOf_42 : decode cX0_barOf 42 = .ok (.ifCond .eq 5, 3) := by decide +kernel
theorem dX0_barOf_45 : decode cX0_barOf 45 = .ok (.iconst (-1), 1) := by decide +kernel
theorem dX0_barOf_46 : decode cX0_barOf 46 = .ok (.ireturn, 1) := by decide +kernel
theorem dX0_barOf_47 : decode cX0_barOf 47 = .ok (.iinc 3 1, 3) := by decide +kernel
theorem dX0_barOf_50 : decode cX0_barOf 50 = .ok (.goto (-19), 3) := by decide +kernel
theorem dX0_barOf_53 : decode cX0_barOf 53 = .ok (.iload_n 2, 1) := by decide +kernel
theorem dX0_barOf_54 : decode cX0_barOf 54 = .ok (.ireturn, 1) := by decide +kernel
theorem f_x_firstWrong_rows : True := trivial
theorem dX0_firstWrong_0 : decode cX0_firstWrong 0 = .ok (.aload_n 2, 1) := by decide +kernel
theorem dX0_firstWrong_1 : decode cX0_firstWrong 1 = .ok (.getfield 100, 3) := by decide +kernel
theorem dX0_firstWrong_4 : decode cX0_firstWrong 4 = .ok (.aload_n 0, 1) := by decide +kernel
theorem dX0_firstWrong_5 : decode cX0_firstWrong 5 = .ok (.getfield 24, 3) := by decide +kernel
theorem dX0_firstWrong_8 : decode cX0_firstWrong 8 = .ok (.invokevirtual 37, 3) := by decide +kernel
theorem dX0_firstWrong_11 : decode cX0_firstWrong 11 = .ok (.invokestatic 54, 3) := by decide +kernel
theorem dX0_firstWrong_14 : decode cX0_firstWrong 14 = .ok (.istore 4, 2) := by decide +kernel
theorem dX0_firstWrong_16 : decode cX0_firstWrong 16 = .ok (.iconst 0, 1) := by decide +kernel
theorem dX0_firstWrong_17 : decode cX0_firstWrong 17 = .ok (.istore 5, 2) := by decide +kernel
theorem dX0_firstWrong_19 : decode cX0_firstWrong 19 = .ok (.iload 5, 2) := by decide +kernel
theorem dX0_firstWrong_21 : decode cX0_firstWrong 21 = .ok (.iload 4, 2) := by decide +kernel
theorem dX0_firstWrong_23 : decode cX0_firstWrong 23 = .ok (.if_icmp .ge 110, 3) := by decide +kernel
theorem dX0_firstWrong_26 : decode cX0_firstWrong 26 = .ok (.iload 5, 2) := by decide +kernel
theorem dX0_firstWrong_28 : decode cX0_firstWrong 28 = .ok (.aload_n 0, 1) := by decide +kernel
theorem dX0_firstWrong_29 : decode cX0_firstWrong 29 = .ok (.getfield 24, 3) := by decide +kernel
theorem dX0_firstWrong_32 : decode cX0_firstWrong 32 = .ok (.getfield 28, 3) := by decide +kernel
theorem dX0_firstWrong_35 : decode cX0_firstWrong 35 = .ok (.bipush 6, 2) := by decide +kernel
theorem dX0_firstWrong_37 : decode cX0_firstWrong 37 = .ok (.iaload, 1) := by decide +kernel
theorem dX0_firstWrong_38 : decode cX0_firstWrong 38 = .ok (.iadd, 1) := by decide +kernel
theorem dX0_firstWrong_39 : decode cX0_firstWrong 39 = .ok (.iconst 1, 1) := by decide +kernel
theorem dX0_firstWrong_40 : decode cX0_firstWrong 40 = .ok (.iadd, 1) := by decide +kernel
theorem dX0_firstWrong_41 : decode cX0_firstWrong 41 = .ok (.aload_n 0, 1) := by decide +kernel
theorem dX0_firstWrong_42 : decode cX0_firstWrong 42 = .ok (.getfield 24, 3) := by decide +kernel
theorem dX0_firstWrong_45 : decode cX0_firstWrong 45 = .ok (.invokevirtual 37, 3) := by decide +kernel
theorem dX0_firstWrong_48 : decode cX0_firstWrong 48 = .ok (.invokestatic 54, 3) := by decide +kernel
theorem dX0_firstWrong_51 : decode cX0_firstWrong 51 = .ok (.istore 6, 2) := by decide +kernel
theorem dX0_firstWrong_53 : decode cX0_firstWrong 53 = .ok (.iload 6, 2) := by decide +kernel
theorem dX0_firstWrong_55 : decode cX0_firstWrong 55 = .ok (.iload 4, 2) := by decide +kernel
theorem dX0_firstWrong_57 : decode cX0_firstWrong 57 = .ok (.if_icmp .gt 70, 3) := by decide +kernel
theorem dX0_firstWrong_60 : decode cX0_firstWrong 60 = .ok (.aload_n 2, 1) := by decide +kernel
theorem dX0_firstWrong_61 : decode cX0_firstWrong 61 = .ok (.iload 5, 2) := by decide +kernel
theorem dX0_firstWrong_63 : decode cX0_firstWrong 63 = .ok (.invokevirtual 106, 3) := by decide +kernel
theorem dX0_firstWrong_66 : decode cX0_firstWrong 66 = .ok (.ifCond .eq 61, 3) := by decide +kernel
theorem dX0_firstWrong_69 : decode cX0_firstWrong 69 = .ok (.aload_n 2, 1) := by decide +kernel
theorem dX0_firstWrong_70 : decode cX0_firstWrong 70 = .ok (.getfield 110, 3) := by decide +kernel
theorem dX0_firstWrong_73 : decode cX0_firstWrong 73 = .ok (.iload 5, 2) := by decide +kernel
theorem dX0_firstWrong_75 : decode cX0_firstWrong 75 = .ok (.ishr, 1) := by decide +kernel
theorem dX0_firstWrong_76 : decode cX0_firstWrong 76 = .ok (.aload_n 0, 1) := by decide +kernel
theorem dX0_firstWrong_77 : decode cX0_firstWrong 77 = .ok (.getfield 24, 3) := by decide +kernel
theorem dX0_firstWrong_80 : decode cX0_firstWrong 80 = .ok (.iload 5, 2) := by decide +kernel
theorem dX0_firstWrong_82 : decode cX0_firstWrong 82 = .ok (.invokevirtual 60, 3) := by decide +kernel
theorem dX0_firstWrong_85 : decode cX0_firstWrong 85 = .ok (.iconst 1, 1) := by decide +kernel
theorem dX0_firstWrong_86 : decode cX0_firstWrong 86 = .ok (.isub, 1) := by decide +kernel
theorem dX0_firstWrong_87 : decode cX0_firstWrong 87 = .ok (.iand, 1) := by decide +kernel
theorem dX0_firstWrong_88 : decode cX0_firstWrong 88 = .ok (.istore 7, 2) := by decide +kernel
theorem dX0_firstWrong_90 : decode cX0_firstWrong 90 = .ok (.iload_n 3, 1) := by decide +kernel
theorem dX0_firstWrong_91 : decode cX0_firstWrong 91 = .ok (.ifCond .eq 16, 3) := by decide +kernel
theorem dX0_firstWrong_94 : decode cX0_firstWrong 94 = .ok (.iload 5, 2) := by decide +kernel
theorem dX0_firstWrong_96 : decode cX0_firstWrong 96 = .ok (.iload 4, 2) := by decide +kernel
theorem dX0_firstWrong_98 : decode cX0_firstWrong 98 = .ok (.iconst 1, 1) := by decide +kernel
theorem dX0_firstWrong_99 : decode cX0_firstWrong 99 = .ok (.isub, 1) := by decide +kernel
theorem dX0_firstWrong_100 : decode cX0_firstWrong 100 = .ok (.if_icmp .ne 7, 3) := by decide +kernel
theorem dX0_firstWrong_103 : decode cX0_firstWrong 103 = .ok (.iconst 1, 1) := by decide +kernel
theorem dX0_firstWrong_104 : decode cX0_firstWrong 104 = .ok (.goto 4, 3) := by decide +kernel
theorem dX0_firstWrong_107 : decode cX0_firstWrong 107 = .ok (.iconst 0, 1) := by decide +kernel
theorem dX0_firstWrong_108 : decode cX0_firstWrong 108 = .ok (.istore 8, 2) := by decide +kernel
theorem dX0_firstWrong_110 : decode cX0_firstWrong 110 = .ok (.aload_n 0, 1) := by decide +kernel
theorem dX0_firstWrong_111 : decode cX0_firstWrong 111 = .ok (.iload_n 1, 1) := by decide +kernel
theorem dX0_firstWrong_112 : decode cX0_firstWrong 112 = .ok (.iload 5, 2) := by decide +kernel
theorem dX0_firstWrong_114 : decode cX0_firstWrong 114 = .ok (.iload 7, 2) := by decide +kernel
theorem dX0_firstWrong_116 : decode cX0_firstWrong 116 = .ok (.invokevirtual 96, 3) := by decide +kernel
theorem dX0_firstWrong_119 : decode cX0_firstWrong 119 = .ok (.iload 8, 2) := by decide +kernel
theorem dX0_firstWrong_121 : decode cX0_firstWrong 121 = .ok (.if_icmp .eq 6, 3) := by decide +kernel
theorem dX0_firstWrong_124 : decode cX0_firstWrong 124 = .ok (.iload 5, 2) := by decide +kernel
theorem dX0_firstWrong_126 : decode cX0_firstWrong 126 = .ok (.ireturn, 1) := by decide +kernel
theorem dX0_firstWrong_127 : decode cX0_firstWrong 127 = .ok (.iinc 5 1, 3) := by decide +kernel
theorem dX0_firstWrong_130 : decode cX0_firstWrong 130 = .ok (.goto (-111), 3) := by decide +kernel
theorem dX0_firstWrong_133 : decode cX0_firstWrong 133 = .ok (.iconst (-1), 1) := by decide +kernel
theorem dX0_firstWrong_134 : decode cX0_firstWrong 134 = .ok (.ireturn, 1) := by decide +kernel
theorem tw_16 : Cond.selects RX2 yX2_meanOfRound yX2_meanOfRound ∈ LW := LWm (i := 16) (by decide +kernel) rfl
theorem tw_83 : Cond.initialized RX2 ∈ LW := LWm1 (i := 5) (by decide +kernel) rfl
theorem tw_182 : Cond.fieldLink RX2 84 "LastPlace$Scene" "rowSize" "I" ∈ LW := LWm1 (i := 104) (by decide +kernel) rfl
theorem tw_210 : Cond.fieldLink RX2 9 "LastPlace$Reckoner" "afterFree" "[I" ∈ LW := LWm1 (i := 132) (by decide +kernel) rfl
theorem tw_211 : Cond.fieldLink RX2 15 "LastPlace$Reckoner" "afterTaken" "[I" ∈ LW := LWm1 (i := 133) (by decide +kernel) rfl
theorem tw_212 : Cond.fieldLink RX2 18 "LastPlace$Reckoner" "least" "[I" ∈ LW := LWm1 (i := 134) (by decide +kernel) rfl
theorem tw_213 : Cond.fieldLink RX2 21 "LastPlace$Reckoner" "waitTicks" "I" ∈ LW := LWm1 (i := 135) (by decide +kernel) rfl
theorem tw_215 : Cond.fieldLink RX2 25 "LastPlace$Reckoner" "waitCost" "I" ∈ LW := LWm1 (i := 137) (by decide +kernel) rfl
theorem tw_705 : Cond.methodLink RX2 28 yX3_roundsIn ∈ LW := LWm3 (i := 147) (by decide +kernel) rfl
theorem tw_706 : Cond.instanceMethod yX3_roundsIn ∈ LW := LWm3 (i := 148) (by decide +kernel) rfl
theorem tw_707 : Cond.selects RX3 yX3_roundsIn yX3_roundsIn ∈ LW := LWm3 (i := 149) (by decide +kernel) rfl
set_option maxRecDepth 100000 in theorem tw_708 : Cond.code yX3_roundsIn cX3_roundsIn 2 (some .int) ∈ LW := LWm3 (i := 150) rfl rfl
theorem tw_710 : Cond.methodLink RX2 34 yX2_garageShare ∈ LW := LWm3 (i := 152) (by decide +kernel) rfl
theorem tw_711 : Cond.static yX2_garageShare ∈ LW := LWm3 (i := 153) (by decide +kernel) rfl
set_option maxRecDepth 100000 in theorem tw_712 : Cond.code yX2_garageShare cX2_garageShare 3 (some .int) ∈ LW := LWm3 (i := 154) rfl rfl
theorem tw_713 : Cond.methodLink RX2 48 yX5_garageOf ∈ LW := LWm3 (i := 155) (by decide +kernel) rfl
theorem tw_714 : Cond.methodLink RX2 52 yX5_isLateIn ∈ LW := LWm3 (i := 156) (by decide +kernel) rfl
theorem tw_715 : Cond.instanceMethod yX5_isLateIn ∈ LW := LWm3 (i := 157) (by decide +kernel) rfl
theorem tw_716 : Cond.selects RX5 yX5_isLateIn yX5_isLateIn ∈ LW := LWm3 (i := 158) (by decide +kernel) rfl
set_option maxRecDepth 100000 in theorem tw_717 : Cond.code yX5_isLateIn cX5_isLateIn 2 (some .boolean) ∈ LW := LWm3 (i := 159) rfl rfl
theorem tw_718 : Cond.constant RX2 56 (1000000) ∈ LW := LWm3 (i := 160) (by decide +kernel) rfl
theorem tw_719 : Cond.methodLink RX2 38 yX2_meanOfRound ∈ LW := LWm3 (i := 161) (by decide +kernel) rfl
theorem tw_721 : Cond.instanceMethod yX2_meanOfRound ∈ LW := LWm3 (i := 163) (by decide +kernel) rfl
set_option maxRecDepth 100000 in theorem tw_722 : Cond.code yX2_meanOfRound cX2_meanOfRound 13 (some .int) ∈ LW := LWm3 (i := 164) rfl rfl
theorem tw_723 : Cond.methodLink RX2 61 yX5_doors ∈ LW := LWm3 (i := 165) (by decide +kernel) rfl
theorem tw_724 : Cond.methodLink RX2 64 yX5_passing ∈ LW := LWm3 (i := 166) (by decide +kernel) rfl
theorem tw_725 : Cond.methodLink RX2 67 yX2_doorShare ∈ LW := LWm3 (i := 167) (by decide +kernel) rfl
theorem tw_726 : Cond.static yX2_doorShare ∈ LW := LWm3 (i := 168) (by decide +kernel) rfl
set_option maxRecDepth 100000 in theorem tw_727 : Cond.code yX2_doorShare cX2_doorShare 4 (some .int) ∈ LW := LWm3 (i := 169) rfl rfl
theorem tw_728 : Cond.methodLink RX2 57 yX5_takingOf ∈ LW := LWm3 (i := 170) (by decide +kernel) rfl
theorem tw_729 : Cond.methodLink RX2 71 yX3_barAfter ∈ LW := LWm3 (i := 171) (by decide +kernel) rfl
theorem tw_730 : Cond.instanceMethod yX3_barAfter ∈ LW := LWm3 (i := 172) (by decide +kernel) rfl
theorem tw_731 : Cond.selects RX3 yX3_barAfter yX3_barAfter ∈ LW := LWm3 (i := 173) (by decide +kernel) rfl
set_option maxRecDepth 100000 in theorem tw_732 : Cond.code yX3_barAfter cX3_barAfter 3 (some .int) ∈ LW := LWm3 (i := 174) rfl rfl
theorem tw_733 : Cond.methodLink RX2 74 yX5_chanceOf ∈ LW := LWm3 (i := 175) (by decide +kernel) rfl
theorem tw_735 : Cond.methodLink RX2 42 yX5_roundDrive ∈ LW := LWm3 (i := 177) (by decide +kernel) rfl
theorem tw_769 : Cond.constantLong RX2 82 (500000) ∈ LW := LWm3 (i := 211) (by decide +kernel) rfl
theorem tw_770 : Cond.methodLink RX2 89 yJ9_min_7cf53 ∈ LW := LWm3 (i := 212) (by decide +kernel) rfl
theorem tw_771 : Cond.methodLink RX2 94 yX4_sawFree ∈ LW := LWm3 (i := 213) (by decide +kernel) rfl
theorem tw_772 : Cond.methodLink RX2 97 yX2_likelihood ∈ LW := LWm3 (i := 214) (by decide +kernel) rfl
theorem tw_773 : Cond.static yX2_likelihood ∈ LW := LWm3 (i := 215) (by decide +kernel) rfl
set_option maxRecDepth 100000 in theorem tw_774 : Cond.code yX2_likelihood cX2_likelihood 5 (some .int) ∈ LW := LWm3 (i := 216) rfl rfl
theorem tw_775 : Cond.constantLong RX2 101 (100) ∈ LW := LWm3 (i := 217) (by decide +kernel) rfl
theorem tw_776 : Cond.methodLink RX2 103 yJ9_max_f86c9 ∈ LW := LWm3 (i := 218) (by decide +kernel) rfl
theorem tw_777 : Cond.static yJ9_max_f86c9 ∈ LW := LWm3 (i := 219) (by decide +kernel) rfl
set_option maxRecDepth 100000 in theorem tw_778 : Cond.code yJ9_max_f86c9 cJ9_max_f86c9 4 (some .long) ∈ LW := LWm3 (i := 220) rfl rfl
theorem tw_779 : Cond.constantLong RX2 107 (1000000) ∈ LW := LWm3 (i := 221) (by decide +kernel) rfl
theorem tw_932 : Cond.methodLink RX2 109 yX4_draw ∈ LW := LWm4 (i := 134) (by decide +kernel) rfl
theorem tw_933 : Cond.instanceMethod yX4_draw ∈ LW := LWm4 (i := 135) (by decide +kernel) rfl
theorem tw_934 : Cond.selects RX4 yX4_draw yX4_draw ∈ LW := LWm4 (i := 136) (by decide +kernel) rfl
set_option maxRecDepth 100000 in theorem tw_935 : Cond.code yX4_draw cX4_draw 1 (some .int) ∈ LW := LWm4 (i := 137) rfl rfl
theorem x_glue5 : True := trivial
theorem whsplit {n : Nat} (h : n ≤ 2) : n = 0 ∨ n = 1 ∨ n = 2 := by omega

theorem f_x_garageShare_rows : True := trivial
theorem dX2_garageShare_0 : decode cX2_garageShare 0 = .ok (.iload_n 2, 1) := by decide +kernel
theorem dX2_garageShare_1 : decode cX2_garageShare 1 = .ok (.lookupswitch 48 #[(0, 27), (1, 33)], 27) := by decide +kernel
theorem dX2_garageShare_28 : decode cX2_garageShare 28 = .ok (.aload_n 0, 1) := by decide +kernel
theorem dX2_garageShare_29 : decode cX2_garageShare 29 = .ok (.iload_n 1, 1) := by decide +kernel
theorem dX2_garageShare_30 : decode cX2_garageShare 30 = .ok (.invokevirtual 48, 3) := by decide +kernel
theorem dX2_garageShare_33 : decode cX2_garageShare 33 = .ok (.ireturn, 1) := by decide +kernel
theorem dX2_garageShare_34 : decode cX2_garageShare 34 = .ok (.aload_n 0, 1) := by decide +kernel
theorem dX2_garageShare_35 : decode cX2_garageShare 35 = .ok (.iload_n 1, 1) := by decide +kernel
theorem dX2_garageShare_36 : decode cX2_garageShare 36 = .ok (.invokevirtual 52, 3) := by decide +kernel
theorem dX2_garageShare_39 : decode cX2_garageShare 39 = .ok (.ifCond .eq 8, 3) := by decide +kernel
theorem dX2_garageShare_42 : decode cX2_garageShare 42 = .ok (.ldc 56, 2) := by decide +kernel
theorem dX2_garageShare_44 : decode cX2_garageShare 44 = .ok (.goto 4, 3) := by decide +kernel
theorem dX2_garageShare_47 : decode cX2_garageShare 47 = .ok (.iconst 0, 1) := by decide +kernel
theorem dX2_garageShare_48 : decode cX2_garageShare 48 = .ok (.ireturn, 1) := by decide +kernel
theorem dX2_garageShare_49 : decode cX2_garageShare 49 = .ok (.ldc 56, 2) := by decide +kernel
theorem dX2_garageShare_51 : decode cX2_garageShare 51 = .ok (.ireturn, 1) := by decide +kernel
theorem f_x_doorShare_rows : True := trivial
theorem dX2_doorShare_0 : decode cX2_doorShare 0 = .ok (.iload_n 3, 1) := by decide +kernel
theorem dX2_doorShare_1 : decode cX2_doorShare 1 = .ok (.lookupswitch 49 #[(0, 27), (1, 34)], 27) := by decide +kernel
theorem dX2_doorShare_28 : decode cX2_doorShare 28 = .ok (.aload_n 0, 1) := by decide +kernel
theorem dX2_doorShare_29 : decode cX2_doorShare 29 = .ok (.iload_n 1, 1) := by decide +kernel
theorem dX2_doorShare_30 : decode cX2_doorShare 30 = .ok (.iload_n 2, 1) := by decide +kernel
theorem dX2_doorShare_31 : decode cX2_doorShare 31 = .ok (.invokevirtual 57, 3) := by decide +kernel
theorem dX2_doorShare_34 : decode cX2_doorShare 34 = .ok (.ireturn, 1) := by decide +kernel
theorem dX2_doorShare_35 : decode cX2_doorShare 35 = .ok (.aload_n 0, 1) := by decide +kernel
theorem dX2_doorShare_36 : decode cX2_doorShare 36 = .ok (.iload_n 1, 1) := by decide +kernel
theorem dX2_doorShare_37 : decode cX2_doorShare 37 = .ok (.invokevirtual 52, 3) := by decide +kernel
theorem dX2_doorShare_40 : decode cX2_doorShare 40 = .ok (.ifCond .eq 8, 3) := by decide +kernel
theorem dX2_doorShare_43 : decode cX2_doorShare 43 = .ok (.ldc 56, 2) := by decide +kernel
theorem dX2_doorShare_45 : decode cX2_doorShare 45 = .ok (.goto 4, 3) := by decide +kernel
theorem dX2_doorShare_48 : decode cX2_doorShare 48 = .ok (.iconst 0, 1) := by decide +kernel
theorem dX2_doorShare_49 : decode cX2_doorShare 49 = .ok (.ireturn, 1) := by decide +kernel
theorem dX2_doorShare_50 : decode cX2_doorShare 50 = .ok (.iconst 0, 1) := by decide +kernel
theorem dX2_doorShare_51 : decode cX2_doorShare 51 = .ok (.ireturn, 1) := by decide +kernel
theorem f_x_meanOfRound_rows : True := trivial
theorem dX2_meanOfRound_0 : decode cX2_meanOfRound 0 = .ok (.iconst 0, 1) := by decide +kernel
theorem dX2_meanOfRound_1 : decode cX2_meanOfRound 1 = .ok (.istore 6, 2) := by decide +kernel
theorem dX2_meanOfRound_3 : decode cX2_meanOfRound 3 = .ok (.iload 6, 2) := by decide +kernel
theorem dX2_meanOfRound_5 : decode cX2_meanOfRound 5 = .ok (.aload_n 1, 1) := by decide +kernel
theorem dX2_meanOfRound_6 : decode cX2_meanOfRound 6 = .ok (.invokevirtual 61, 3) := by decide +kernel
theorem dX2_meanOfRound_9 : decode cX2_meanOfRound 9 = .ok (.if_icmp .gt 27, 3) := by decide +kernel
theorem dX2_meanOfRound_12 : decode cX2_meanOfRound 12 = .ok (.aload_n 0, 1) := by decide +kernel
theorem dX2_meanOfRound_13 : decode cX2_meanOfRound 13 = .ok (.getfield 9, 3) := by decide +kernel
theorem dX2_meanOfRound_16 : decode cX2_meanOfRound 16 = .ok (.iload 6, 2) := by decide +kernel
theorem dX2_meanOfRound_18 : decode cX2_meanOfRound 18 = .ok (.iload 5, 2) := by decide +kernel
theorem dX2_meanOfRound_20 : decode cX2_meanOfRound 20 = .ok (.iastore, 1) := by decide +kernel
theorem dX2_meanOfRound_21 : decode cX2_meanOfRound 21 = .ok (.aload_n 0, 1) := by decide +kernel
theorem dX2_meanOfRound_22 : decode cX2_meanOfRound 22 = .ok (.getfield 15, 3) := by decide +kernel
theorem dX2_meanOfRound_25 : decode cX2_meanOfRound 25 = .ok (.iload 6, 2) := by decide +kernel
theorem dX2_meanOfRound_27 : decode cX2_meanOfRound 27 = .ok (.iload 5, 2) := by decide +kernel
theorem dX2_meanOfRound_29 : decode cX2_meanOfRound 29 = .ok (.iastore, 1) := by decide +kernel
theorem dX2_meanOfRound_30 : decode cX2_meanOfRound 30 = .ok (.iinc 6 1, 3) := by decide +kernel
theorem dX2_meanOfRound_33 : decode cX2_meanOfRound 33 = .ok (.goto (-30), 3) := by decide +kernel
theorem dX2_meanOfRound_36 : decode cX2_meanOfRound 36 = .ok (.iload_n 3, 1) := by decide +kernel
theorem dX2_meanOfRound_37 : decode cX2_meanOfRound 37 = .ok (.ifCond .ne 10, 3) := by decide +kernel
theorem dX2_meanOfRound_40 : decode cX2_meanOfRound 40 = .ok (.aload_n 1, 1) := by decide +kernel
theorem dX2_meanOfRound_41 : decode cX2_meanOfRound 41 = .ok (.invokevirtual 64, 3) := by decide +kernel
theorem dX2_meanOfRound_44 : decode cX2_meanOfRound 44 = .ok (.goto 4, 3) := by decide +kernel
theorem dX2_meanOfRound_47 : decode cX2_meanOfRound 47 = .ok (.iconst 0, 1) := by decide +kernel
theorem dX2_meanOfRound_48 : decode cX2_meanOfRound 48 = .ok (.istore 6, 2) := by decide +kernel
theorem dX2_meanOfRound_50 : decode cX2_meanOfRound 50 = .ok (.aload_n 1, 1) := by decide +kernel
theorem dX2_meanOfRound_51 : decode cX2_meanOfRound 51 = .ok (.invokevirtual 61, 3) := by decide +kernel
theorem dX2_meanOfRound_54 : decode cX2_meanOfRound 54 = .ok (.iconst 1, 1) := by decide +kernel
theorem dX2_meanOfRound_55 : decode cX2_meanOfRound 55 = .ok (.isub, 1) := by decide +kernel
theorem dX2_meanOfRound_56 : decode cX2_meanOfRound 56 = .ok (.istore 7, 2) := by decide +kernel
theorem dX2_meanOfRound_58 : decode cX2_meanOfRound 58 = .ok (.iload 7, 2) := by decide +kernel
theorem dX2_meanOfRound_60 : decode cX2_meanOfRound 60 = .ok (.ifCond .lt 132, 3) := by decide +kernel
theorem dX2_meanOfRound_63 : decode cX2_meanOfRound 63 = .ok (.aload_n 1, 1) := by decide +kernel
theorem dX2_meanOfRound_64 : decode cX2_meanOfRound 64 = .ok (.iload 4, 2) := by decide +kernel
theorem dX2_meanOfRound_66 : decode cX2_meanOfRound 66 = .ok (.iload 7, 2) := by decide +kernel
theorem dX2_meanOfRound_68 : decode cX2_meanOfRound 68 = .ok (.iload_n 3, 1) := by decide +kernel
theorem dX2_meanOfRound_69 : decode cX2_meanOfRound 69 = .ok (.invokestatic 67, 3) := by decide +kernel
theorem dX2_meanOfRound_72 : decode cX2_meanOfRound 72 = .ok (.istore 8, 2) := by decide +kernel
theorem dX2_meanOfRound_74 : decode cX2_meanOfRound 74 = .ok (.iconst 0, 1) := by decide +kernel
theorem dX2_meanOfRound_75 : decode cX2_meanOfRound 75 = .ok (.istore 9, 2) := by decide +kernel
theorem dX2_meanOfRound_77 : decode cX2_meanOfRound 77 = .ok (.iload 9, 2) := by decide +kernel
theorem dX2_meanOfRound_79 : decode cX2_meanOfRound 79 = .ok (.iload 7, 2) := by decide +kernel
theorem dX2_meanOfRound_81 : decode cX2_meanOfRound 81 = .ok (.if_icmp .gt 105, 3) := by decide +kernel
theorem dX2_meanOfRound_84 : decode cX2_meanOfRound 84 = .ok (.iload 7, 2) := by decide +kernel
theorem dX2_meanOfRound_86 : decode cX2_meanOfRound 86 = .ok (.aload_n 2, 1) := by decide +kernel
theorem dX2_meanOfRound_87 : decode cX2_meanOfRound 87 = .ok (.iload 9, 2) := by decide +kernel
theorem dX2_meanOfRound_89 : decode cX2_meanOfRound 89 = .ok (.invokevirtual 71, 3) := by decide +kernel
theorem dX2_meanOfRound_92 : decode cX2_meanOfRound 92 = .ok (.if_icmp .lt 7, 3) := by decide +kernel
theorem dX2_meanOfRound_95 : decode cX2_meanOfRound 95 = .ok (.iconst 1, 1) := by decide +kernel
theorem dX2_meanOfRound_96 : decode cX2_meanOfRound 96 = .ok (.goto 4, 3) := by decide +kernel
theorem dX2_meanOfRound_99 : decode cX2_meanOfRound 99 = .ok (.iconst 0, 1) := by decide +kernel
theorem dX2_meanOfRound_100 : decode cX2_meanOfRound 100 = .ok (.istore 10, 2) := by decide +kernel
theorem dX2_meanOfRound_102 : decode cX2_meanOfRound 102 = .ok (.iload 10, 2) := by decide +kernel
theorem dX2_meanOfRound_104 : decode cX2_meanOfRound 104 = .ok (.ifCond .eq 8, 3) := by decide +kernel
theorem dX2_meanOfRound_107 : decode cX2_meanOfRound 107 = .ok (.iload 8, 2) := by decide +kernel
theorem dX2_meanOfRound_109 : decode cX2_meanOfRound 109 = .ok (.goto 15, 3) := by decide +kernel
theorem dX2_meanOfRound_112 : decode cX2_meanOfRound 112 = .ok (.iload 6, 2) := by decide +kernel
theorem dX2_meanOfRound_114 : decode cX2_meanOfRound 114 = .ok (.aload_n 0, 1) := by decide +kernel
theorem dX2_meanOfRound_115 : decode cX2_meanOfRound 115 = .ok (.getfield 9, 3) := by decide +kernel
theorem dX2_meanOfRound_118 : decode cX2_meanOfRound 118 = .ok (.iload 9, 2) := by decide +kernel
theorem dX2_meanOfRound_120 : decode cX2_meanOfRound 120 = .ok (.iconst 1, 1) := by decide +kernel
theorem dX2_meanOfRound_121 : decode cX2_meanOfRound 121 = .ok (.iadd, 1) := by decide +kernel
theorem dX2_meanOfRound_122 : decode cX2_meanOfRound 122 = .ok (.iaload, 1) := by decide +kernel
theorem dX2_meanOfRound_123 : decode cX2_meanOfRound 123 = .ok (.iadd, 1) := by decide +kernel
theorem dX2_meanOfRound_124 : decode cX2_meanOfRound 124 = .ok (.istore 11, 2) := by decide +kernel
theorem dX2_meanOfRound_126 : decode cX2_meanOfRound 126 = .ok (.iload 6, 2) := by decide +kernel
theorem dX2_meanOfRound_128 : decode cX2_meanOfRound 128 = .ok (.aload_n 0, 1) := by decide +kernel
theorem dX2_meanOfRound_129 : decode cX2_meanOfRound 129 = .ok (.getfield 15, 3) := by decide +kernel
theorem dX2_meanOfRound_132 : decode cX2_meanOfRound 132 = .ok (.iload 9, 2) := by decide +kernel
theorem dX2_meanOfRound_134 : decode cX2_meanOfRound 134 = .ok (.iaload, 1) := by decide +kernel
theorem dX2_meanOfRound_135 : decode cX2_meanOfRound 135 = .ok (.iadd, 1) := by decide +kernel
theorem dX2_meanOfRound_136 : decode cX2_meanOfRound 136 = .ok (.istore 12, 2) := by decide +kernel
theorem dX2_meanOfRound_138 : decode cX2_meanOfRound 138 = .ok (.aload_n 0, 1) := by decide +kernel
theorem dX2_meanOfRound_139 : decode cX2_meanOfRound 139 = .ok (.getfield 9, 3) := by decide +kernel
theorem dX2_meanOfRound_142 : decode cX2_meanOfRound 142 = .ok (.iload 9, 2) := by decide +kernel
theorem dX2_meanOfRound_144 : decode cX2_meanOfRound 144 = .ok (.aload_n 1, 1) := by decide +kernel
theorem dX2_meanOfRound_145 : decode cX2_meanOfRound 145 = .ok (.iload 7, 2) := by decide +kernel
theorem dX2_meanOfRound_147 : decode cX2_meanOfRound 147 = .ok (.iconst 1, 1) := by decide +kernel
theorem dX2_meanOfRound_148 : decode cX2_meanOfRound 148 = .ok (.invokevirtual 74, 3) := by decide +kernel
theorem dX2_meanOfRound_151 : decode cX2_meanOfRound 151 = .ok (.iload 11, 2) := by decide +kernel
theorem dX2_meanOfRound_153 : decode cX2_meanOfRound 153 = .ok (.iload 12, 2) := by decide +kernel
theorem dX2_meanOfRound_155 : decode cX2_meanOfRound 155 = .ok (.invokestatic 78, 3) := by decide +kernel
theorem dX2_meanOfRound_158 : decode cX2_meanOfRound 158 = .ok (.iastore, 1) := by decide +kernel
theorem dX2_meanOfRound_159 : decode cX2_meanOfRound 159 = .ok (.aload_n 0, 1) := by decide +kernel
theorem dX2_meanOfRound_160 : decode cX2_meanOfRound 160 = .ok (.getfield 15, 3) := by decide +kernel
theorem dX2_meanOfRound_163 : decode cX2_meanOfRound 163 = .ok (.iload 9, 2) := by decide +kernel
theorem dX2_meanOfRound_165 : decode cX2_meanOfRound 165 = .ok (.aload_n 1, 1) := by decide +kernel
theorem dX2_meanOfRound_166 : decode cX2_meanOfRound 166 = .ok (.iload 7, 2) := by decide +kernel
theorem dX2_meanOfRound_168 : decode cX2_meanOfRound 168 = .ok (.iconst 0, 1) := by decide +kernel
theorem dX2_meanOfRound_169 : decode cX2_meanOfRound 169 = .ok (.invokevirtual 74, 3) := by decide +kernel
theorem dX2_meanOfRound_172 : decode cX2_meanOfRound 172 = .ok (.iload 11, 2) := by decide +kernel
theorem dX2_meanOfRound_174 : decode cX2_meanOfRound 174 = .ok (.iload 12, 2) := by decide +kernel
theorem dX2_meanOfRound_176 : decode cX2_meanOfRound 176 = .ok (.invokestatic 78, 3) := by decide +kernel
theorem dX2_meanOfRound_179 : decode cX2_meanOfRound 179 = .ok (.iastore, 1) := by decide +kernel
theorem dX2_meanOfRound_180 : decode cX2_meanOfRound 180 = .ok (.iinc 9 1, 3) := by decide +kernel
theorem dX2_meanOfRound_183 : decode cX2_meanOfRound 183 = .ok (.goto (-106), 3) := by decide +kernel
theorem dX2_meanOfRound_186 : decode cX2_meanOfRound 186 = .ok (.iinc 7 (-1), 3) := by decide +kernel
theorem dX2_meanOfRound_189 : decode cX2_meanOfRound 189 = .ok (.goto (-131), 3) := by decide +kernel
theorem dX2_meanOfRound_192 : decode cX2_meanOfRound 192 = .ok (.aload_n 0, 1) := by decide +kernel
theorem dX2_meanOfRound_193 : decode cX2_meanOfRound 193 = .ok (.getfield 15, 3) := by decide +kernel
theorem dX2_meanOfRound_196 : decode cX2_meanOfRound 196 = .ok (.iconst 0, 1) := by decide +kernel
theorem dX2_meanOfRound_197 : decode cX2_meanOfRound 197 = .ok (.iaload, 1) := by decide +kernel
theorem dX2_meanOfRound_198 : decode cX2_meanOfRound 198 = .ok (.ireturn, 1) := by decide +kernel
theorem f_x_meanOf_rows : True := trivial
theorem dX2_meanOf_0 : decode cX2_meanOf 0 = .ok (.aload_n 2, 1) := by decide +kernel
theorem dX2_meanOf_1 : decode cX2_meanOf 1 = .ok (.aload_n 1, 1) := by decide +kernel
theorem dX2_meanOf_2 : decode cX2_meanOf 2 = .ok (.invokevirtual 28, 3) := by decide +kernel
theorem dX2_meanOf_5 : decode cX2_meanOf 5 = .ok (.istore 4, 2) := by decide +kernel
theorem dX2_meanOf_7 : decode cX2_meanOf 7 = .ok (.aload_n 1, 1) := by decide +kernel
theorem dX2_meanOf_8 : decode cX2_meanOf 8 = .ok (.iload 4, 2) := by decide +kernel
theorem dX2_meanOf_10 : decode cX2_meanOf 10 = .ok (.iload_n 3, 1) := by decide +kernel
theorem dX2_meanOf_11 : decode cX2_meanOf 11 = .ok (.invokestatic 34, 3) := by decide +kernel
theorem dX2_meanOf_14 : decode cX2_meanOf 14 = .ok (.istore 5, 2) := by decide +kernel
theorem dX2_meanOf_16 : decode cX2_meanOf 16 = .ok (.iload 4, 2) := by decide +kernel
theorem dX2_meanOf_18 : decode cX2_meanOf 18 = .ok (.istore 6, 2) := by decide +kernel
theorem dX2_meanOf_20 : decode cX2_meanOf 20 = .ok (.iload 6, 2) := by decide +kernel
theorem dX2_meanOf_22 : decode cX2_meanOf 22 = .ok (.ifCond .lt 40, 3) := by decide +kernel
theorem dX2_meanOf_25 : decode cX2_meanOf 25 = .ok (.aload_n 0, 1) := by decide +kernel
theorem dX2_meanOf_26 : decode cX2_meanOf 26 = .ok (.aload_n 1, 1) := by decide +kernel
theorem dX2_meanOf_27 : decode cX2_meanOf 27 = .ok (.aload_n 2, 1) := by decide +kernel
theorem dX2_meanOf_28 : decode cX2_meanOf 28 = .ok (.iload_n 3, 1) := by decide +kernel
theorem dX2_meanOf_29 : decode cX2_meanOf 29 = .ok (.iload 6, 2) := by decide +kernel
theorem dX2_meanOf_31 : decode cX2_meanOf 31 = .ok (.iload 5, 2) := by decide +kernel
theorem dX2_meanOf_33 : decode cX2_meanOf 33 = .ok (.invokevirtual 38, 3) := by decide +kernel
theorem dX2_meanOf_36 : decode cX2_meanOf 36 = .ok (.istore 5, 2) := by decide +kernel
theorem dX2_meanOf_38 : decode cX2_meanOf 38 = .ok (.iload 6, 2) := by decide +kernel
theorem dX2_meanOf_40 : decode cX2_meanOf 40 = .ok (.ifCond .le 16, 3) := by decide +kernel
theorem dX2_meanOf_43 : decode cX2_meanOf 43 = .ok (.iload_n 3, 1) := by decide +kernel
theorem dX2_meanOf_44 : decode cX2_meanOf 44 = .ok (.ifCond .ne 12, 3) := by decide +kernel
theorem dX2_meanOf_47 : decode cX2_meanOf 47 = .ok (.iload 5, 2) := by decide +kernel
theorem dX2_meanOf_49 : decode cX2_meanOf 49 = .ok (.aload_n 1, 1) := by decide +kernel
theorem dX2_meanOf_50 : decode cX2_meanOf 50 = .ok (.invokevirtual 42, 3) := by decide +kernel
theorem dX2_meanOf_53 : decode cX2_meanOf 53 = .ok (.iadd, 1) := by decide +kernel
theorem dX2_meanOf_54 : decode cX2_meanOf 54 = .ok (.istore 5, 2) := by decide +kernel
theorem dX2_meanOf_56 : decode cX2_meanOf 56 = .ok (.iinc 6 (-1), 3) := by decide +kernel
theorem dX2_meanOf_59 : decode cX2_meanOf 59 = .ok (.goto (-39), 3) := by decide +kernel
theorem dX2_meanOf_62 : decode cX2_meanOf 62 = .ok (.iload 5, 2) := by decide +kernel
theorem dX2_meanOf_64 : decode cX2_meanOf 64 = .ok (.ireturn, 1) := by decide +kernel
theorem f_x_boyOf_rows : True := trivial
theorem dX2_boyOf_0 : decode cX2_boyOf 0 = .ok (.aload_n 1, 1) := by decide +kernel
theorem dX2_boyOf_1 : decode cX2_boyOf 1 = .ok (.invokevirtual 61, 3) := by decide +kernel
theorem dX2_boyOf_4 : decode cX2_boyOf 4 = .ok (.istore_n 3, 1) := by decide +kernel
theorem dX2_boyOf_5 : decode cX2_boyOf 5 = .ok (.aload_n 0, 1) := by decide +kernel
theorem dX2_boyOf_6 : decode cX2_boyOf 6 = .ok (.getfield 18, 3) := by decide +kernel
theorem dX2_boyOf_9 : decode cX2_boyOf 9 = .ok (.iconst 0, 1) := by decide +kernel
theorem dX2_boyOf_10 : decode cX2_boyOf 10 = .ok (.iload_n 2, 1) := by decide +kernel
theorem dX2_boyOf_11 : decode cX2_boyOf 11 = .ok (.iastore, 1) := by decide +kernel
theorem dX2_boyOf_12 : decode cX2_boyOf 12 = .ok (.iconst 0, 1) := by decide +kernel
theorem dX2_boyOf_13 : decode cX2_boyOf 13 = .ok (.istore 4, 2) := by decide +kernel
theorem dX2_boyOf_15 : decode cX2_boyOf 15 = .ok (.iload 4, 2) := by decide +kernel
theorem dX2_boyOf_17 : decode cX2_boyOf 17 = .ok (.iload_n 3, 1) := by decide +kernel
theorem dX2_boyOf_18 : decode cX2_boyOf 18 = .ok (.if_icmp .ge 25, 3) := by decide +kernel
theorem dX2_boyOf_21 : decode cX2_boyOf 21 = .ok (.aload_n 0, 1) := by decide +kernel
theorem dX2_boyOf_22 : decode cX2_boyOf 22 = .ok (.getfield 18, 3) := by decide +kernel
theorem dX2_boyOf_25 : decode cX2_boyOf 25 = .ok (.iload 4, 2) := by decide +kernel
theorem dX2_boyOf_27 : decode cX2_boyOf 27 = .ok (.iconst 1, 1) := by decide +kernel
theorem dX2_boyOf_28 : decode cX2_boyOf 28 = .ok (.iadd, 1) := by decide +kernel
theorem dX2_boyOf_29 : decode cX2_boyOf 29 = .ok (.aload_n 1, 1) := by decide +kernel
theorem dX2_boyOf_30 : decode cX2_boyOf 30 = .ok (.iconst 0, 1) := by decide +kernel
theorem dX2_boyOf_31 : decode cX2_boyOf 31 = .ok (.iload 4, 2) := by decide +kernel
theorem dX2_boyOf_33 : decode cX2_boyOf 33 = .ok (.invokevirtual 57, 3) := by decide +kernel
theorem dX2_boyOf_36 : decode cX2_boyOf 36 = .ok (.iastore, 1) := by decide +kernel
theorem dX2_boyOf_37 : decode cX2_boyOf 37 = .ok (.iinc 4 1, 3) := by decide +kernel
theorem dX2_boyOf_40 : decode cX2_boyOf 40 = .ok (.goto (-25), 3) := by decide +kernel
theorem dX2_boyOf_43 : decode cX2_boyOf 43 = .ok (.iconst 0, 1) := by decide +kernel
theorem dX2_boyOf_44 : decode cX2_boyOf 44 = .ok (.istore 4, 2) := by decide +kernel
theorem dX2_boyOf_46 : decode cX2_boyOf 46 = .ok (.iload 4, 2) := by decide +kernel
theorem dX2_boyOf_48 : decode cX2_boyOf 48 = .ok (.iload_n 3, 1) := by decide +kernel
theorem dX2_boyOf_49 : decode cX2_boyOf 49 = .ok (.if_icmp .gt 37, 3) := by decide +kernel
theorem dX2_boyOf_52 : decode cX2_boyOf 52 = .ok (.aload_n 0, 1) := by decide +kernel
theorem dX2_boyOf_53 : decode cX2_boyOf 53 = .ok (.getfield 9, 3) := by decide +kernel
theorem dX2_boyOf_56 : decode cX2_boyOf 56 = .ok (.iload 4, 2) := by decide +kernel
theorem dX2_boyOf_58 : decode cX2_boyOf 58 = .ok (.aload_n 0, 1) := by decide +kernel
theorem dX2_boyOf_59 : decode cX2_boyOf 59 = .ok (.getfield 18, 3) := by decide +kernel
theorem dX2_boyOf_62 : decode cX2_boyOf 62 = .ok (.iload 4, 2) := by decide +kernel
theorem dX2_boyOf_64 : decode cX2_boyOf 64 = .ok (.iaload, 1) := by decide +kernel
theorem dX2_boyOf_65 : decode cX2_boyOf 65 = .ok (.iastore, 1) := by decide +kernel
theorem dX2_boyOf_66 : decode cX2_boyOf 66 = .ok (.aload_n 0, 1) := by decide +kernel
theorem dX2_boyOf_67 : decode cX2_boyOf 67 = .ok (.getfield 15, 3) := by decide +kernel
theorem dX2_boyOf_70 : decode cX2_boyOf 70 = .ok (.iload 4, 2) := by decide +kernel
theorem dX2_boyOf_72 : decode cX2_boyOf 72 = .ok (.aload_n 0, 1) := by decide +kernel
theorem dX2_boyOf_73 : decode cX2_boyOf 73 = .ok (.getfield 18, 3) := by decide +kernel
theorem dX2_boyOf_76 : decode cX2_boyOf 76 = .ok (.iload 4, 2) := by decide +kernel
theorem dX2_boyOf_78 : decode cX2_boyOf 78 = .ok (.iaload, 1) := by decide +kernel
theorem dX2_boyOf_79 : decode cX2_boyOf 79 = .ok (.iastore, 1) := by decide +kernel
theorem dX2_boyOf_80 : decode cX2_boyOf 80 = .ok (.iinc 4 1, 3) := by decide +kernel
theorem dX2_boyOf_83 : decode cX2_boyOf 83 = .ok (.goto (-37), 3) := by decide +kernel
theorem dX2_boyOf_86 : decode cX2_boyOf 86 = .ok (.iload_n 3, 1) := by decide +kernel
theorem dX2_boyOf_87 : decode cX2_boyOf 87 = .ok (.iconst 1, 1) := by decide +kernel
theorem dX2_boyOf_88 : decode cX2_boyOf 88 = .ok (.isub, 1) := by decide +kernel
theorem dX2_boyOf_89 : decode cX2_boyOf 89 = .ok (.istore 4, 2) := by decide +kernel
theorem dX2_boyOf_91 : decode cX2_boyOf 91 = .ok (.iload 4, 2) := by decide +kernel
theorem dX2_boyOf_93 : decode cX2_boyOf 93 = .ok (.ifCond .lt 111, 3) := by decide +kernel
theorem dX2_boyOf_96 : decode cX2_boyOf 96 = .ok (.iconst 0, 1) := by decide +kernel
theorem dX2_boyOf_97 : decode cX2_boyOf 97 = .ok (.istore 5, 2) := by decide +kernel
theorem dX2_boyOf_99 : decode cX2_boyOf 99 = .ok (.iload 5, 2) := by decide +kernel
theorem dX2_boyOf_101 : decode cX2_boyOf 101 = .ok (.iload 4, 2) := by decide +kernel
theorem dX2_boyOf_103 : decode cX2_boyOf 103 = .ok (.if_icmp .gt 95, 3) := by decide +kernel
theorem dX2_boyOf_106 : decode cX2_boyOf 106 = .ok (.aload_n 0, 1) := by decide +kernel
theorem dX2_boyOf_107 : decode cX2_boyOf 107 = .ok (.getfield 9, 3) := by decide +kernel
theorem dX2_boyOf_110 : decode cX2_boyOf 110 = .ok (.aload_n 0, 1) := by decide +kernel
theorem dX2_boyOf_111 : decode cX2_boyOf 111 = .ok (.getfield 18, 3) := by decide +kernel
theorem dX2_boyOf_114 : decode cX2_boyOf 114 = .ok (.iload 4, 2) := by decide +kernel
theorem dX2_boyOf_116 : decode cX2_boyOf 116 = .ok (.iconst 1, 1) := by decide +kernel
theorem dX2_boyOf_117 : decode cX2_boyOf 117 = .ok (.iadd, 1) := by decide +kernel
theorem dX2_boyOf_118 : decode cX2_boyOf 118 = .ok (.iaload, 1) := by decide +kernel
theorem dX2_boyOf_119 : decode cX2_boyOf 119 = .ok (.aload_n 0, 1) := by decide +kernel
theorem dX2_boyOf_120 : decode cX2_boyOf 120 = .ok (.getfield 18, 3) := by decide +kernel
theorem dX2_boyOf_123 : decode cX2_boyOf 123 = .ok (.iload 5, 2) := by decide +kernel
theorem dX2_boyOf_125 : decode cX2_boyOf 125 = .ok (.iaload, 1) := by decide +kernel
theorem dX2_boyOf_126 : decode cX2_boyOf 126 = .ok (.if_icmp .ge 10, 3) := by decide +kernel
theorem dX2_boyOf_129 : decode cX2_boyOf 129 = .ok (.iload 4, 2) := by decide +kernel
theorem dX2_boyOf_131 : decode cX2_boyOf 131 = .ok (.iconst 1, 1) := by decide +kernel
theorem dX2_boyOf_132 : decode cX2_boyOf 132 = .ok (.iadd, 1) := by decide +kernel
theorem dX2_boyOf_133 : decode cX2_boyOf 133 = .ok (.goto 5, 3) := by decide +kernel
theorem dX2_boyOf_136 : decode cX2_boyOf 136 = .ok (.iload 5, 2) := by decide +kernel
theorem dX2_boyOf_138 : decode cX2_boyOf 138 = .ok (.iaload, 1) := by decide +kernel
theorem dX2_boyOf_139 : decode cX2_boyOf 139 = .ok (.istore 6, 2) := by decide +kernel
theorem dX2_boyOf_141 : decode cX2_boyOf 141 = .ok (.aload_n 0, 1) := by decide +kernel
theorem dX2_boyOf_142 : decode cX2_boyOf 142 = .ok (.getfield 15, 3) := by decide +kernel
theorem dX2_boyOf_145 : decode cX2_boyOf 145 = .ok (.iload 5, 2) := by decide +kernel
theorem dX2_boyOf_147 : decode cX2_boyOf 147 = .ok (.iaload, 1) := by decide +kernel
theorem dX2_boyOf_148 : decode cX2_boyOf 148 = .ok (.istore 7, 2) := by decide +kernel
theorem dX2_boyOf_150 : decode cX2_boyOf 150 = .ok (.aload_n 0, 1) := by decide +kernel
theorem dX2_boyOf_151 : decode cX2_boyOf 151 = .ok (.getfield 9, 3) := by decide +kernel
theorem dX2_boyOf_154 : decode cX2_boyOf 154 = .ok (.iload 5, 2) := by decide +kernel
theorem dX2_boyOf_156 : decode cX2_boyOf 156 = .ok (.aload_n 1, 1) := by decide +kernel
theorem dX2_boyOf_157 : decode cX2_boyOf 157 = .ok (.iload 4, 2) := by decide +kernel
theorem dX2_boyOf_159 : decode cX2_boyOf 159 = .ok (.iconst 1, 1) := by decide +kernel
theorem dX2_boyOf_160 : decode cX2_boyOf 160 = .ok (.invokevirtual 74, 3) := by decide +kernel
theorem dX2_boyOf_163 : decode cX2_boyOf 163 = .ok (.iload 6, 2) := by decide +kernel
theorem dX2_boyOf_165 : decode cX2_boyOf 165 = .ok (.iload 7, 2) := by decide +kernel
theorem dX2_boyOf_167 : decode cX2_boyOf 167 = .ok (.invokestatic 78, 3) := by decide +kernel
theorem dX2_boyOf_170 : decode cX2_boyOf 170 = .ok (.iastore, 1) := by decide +kernel
theorem dX2_boyOf_171 : decode cX2_boyOf 171 = .ok (.aload_n 0, 1) := by decide +kernel
theorem dX2_boyOf_172 : decode cX2_boyOf 172 = .ok (.getfield 15, 3) := by decide +kernel
theorem dX2_boyOf_175 : decode cX2_boyOf 175 = .ok (.iload 5, 2) := by decide +kernel
theorem dX2_boyOf_177 : decode cX2_boyOf 177 = .ok (.aload_n 1, 1) := by decide +kernel
theorem dX2_boyOf_178 : decode cX2_boyOf 178 = .ok (.iload 4, 2) := by decide +kernel
theorem dX2_boyOf_180 : decode cX2_boyOf 180 = .ok (.iconst 0, 1) := by decide +kernel
theorem dX2_boyOf_181 : decode cX2_boyOf 181 = .ok (.invokevirtual 74, 3) := by decide +kernel
theorem dX2_boyOf_184 : decode cX2_boyOf 184 = .ok (.iload 6, 2) := by decide +kernel
theorem dX2_boyOf_186 : decode cX2_boyOf 186 = .ok (.iload 7, 2) := by decide +kernel
theorem dX2_boyOf_188 : decode cX2_boyOf 188 = .ok (.invokestatic 78, 3) := by decide +kernel
theorem dX2_boyOf_191 : decode cX2_boyOf 191 = .ok (.iastore, 1) := by decide +kernel
theorem dX2_boyOf_192 : decode cX2_boyOf 192 = .ok (.iinc 5 1, 3) := by decide +kernel
theorem dX2_boyOf_195 : decode cX2_boyOf 195 = .ok (.goto (-96), 3) := by decide +kernel
theorem dX2_boyOf_198 : decode cX2_boyOf 198 = .ok (.iinc 4 (-1), 3) := by decide +kernel
theorem dX2_boyOf_201 : decode cX2_boyOf 201 = .ok (.goto (-110), 3) := by decide +kernel
theorem dX2_boyOf_204 : decode cX2_boyOf 204 = .ok (.aload_n 0, 1) := by decide +kernel
theorem dX2_boyOf_205 : decode cX2_boyOf 205 = .ok (.getfield 15, 3) := by decide +kernel
theorem dX2_boyOf_208 : decode cX2_boyOf 208 = .ok (.iconst 0, 1) := by decide +kernel
theorem dX2_boyOf_209 : decode cX2_boyOf 209 = .ok (.iaload, 1) := by decide +kernel
theorem dX2_boyOf_210 : decode cX2_boyOf 210 = .ok (.ireturn, 1) := by decide +kernel
theorem f_x_reckonWait_rows : True := trivial
theorem dX2_reckonWait_0 : decode cX2_reckonWait 0 = .ok (.aload_n 0, 1) := by decide +kernel
theorem dX2_reckonWait_1 : decode cX2_reckonWait 1 = .ok (.iconst 0, 1) := by decide +kernel
theorem dX2_reckonWait_2 : decode cX2_reckonWait 2 = .ok (.putfield 21, 3) := by decide +kernel
theorem dX2_reckonWait_5 : decode cX2_reckonWait 5 = .ok (.aload_n 0, 1) := by decide +kernel
theorem dX2_reckonWait_6 : decode cX2_reckonWait 6 = .ok (.iload_n 1, 1) := by decide +kernel
theorem dX2_reckonWait_7 : decode cX2_reckonWait 7 = .ok (.putfield 25, 3) := by decide +kernel
theorem dX2_reckonWait_10 : decode cX2_reckonWait 10 = .ok (.iload_n 1, 1) := by decide +kernel
theorem dX2_reckonWait_11 : decode cX2_reckonWait 11 = .ok (.istore 5, 2) := by decide +kernel
theorem dX2_reckonWait_13 : decode cX2_reckonWait 13 = .ok (.iconst 1, 1) := by decide +kernel
theorem dX2_reckonWait_14 : decode cX2_reckonWait 14 = .ok (.istore 6, 2) := by decide +kernel
theorem dX2_reckonWait_16 : decode cX2_reckonWait 16 = .ok (.iload 6, 2) := by decide +kernel
theorem dX2_reckonWait_18 : decode cX2_reckonWait 18 = .ok (.bipush 20, 2) := by decide +kernel
theorem dX2_reckonWait_20 : decode cX2_reckonWait 20 = .ok (.if_icmp .gt 46, 3) := by decide +kernel
theorem dX2_reckonWait_23 : decode cX2_reckonWait 23 = .ok (.sipush 1000, 3) := by decide +kernel
theorem dX2_reckonWait_26 : decode cX2_reckonWait 26 = .ok (.iload 4, 2) := by decide +kernel
theorem dX2_reckonWait_28 : decode cX2_reckonWait 28 = .ok (.imul, 1) := by decide +kernel
theorem dX2_reckonWait_29 : decode cX2_reckonWait 29 = .ok (.iload_n 3, 1) := by decide +kernel
theorem dX2_reckonWait_30 : decode cX2_reckonWait 30 = .ok (.iload_n 2, 1) := by decide +kernel
theorem dX2_reckonWait_31 : decode cX2_reckonWait 31 = .ok (.iload 5, 2) := by decide +kernel
theorem dX2_reckonWait_33 : decode cX2_reckonWait 33 = .ok (.invokestatic 78, 3) := by decide +kernel
theorem dX2_reckonWait_36 : decode cX2_reckonWait 36 = .ok (.iadd, 1) := by decide +kernel
theorem dX2_reckonWait_37 : decode cX2_reckonWait 37 = .ok (.istore 5, 2) := by decide +kernel
theorem dX2_reckonWait_39 : decode cX2_reckonWait 39 = .ok (.iload 5, 2) := by decide +kernel
theorem dX2_reckonWait_41 : decode cX2_reckonWait 41 = .ok (.aload_n 0, 1) := by decide +kernel
theorem dX2_reckonWait_42 : decode cX2_reckonWait 42 = .ok (.getfield 25, 3) := by decide +kernel
theorem dX2_reckonWait_45 : decode cX2_reckonWait 45 = .ok (.if_icmp .ge 15, 3) := by decide +kernel
theorem dX2_reckonWait_48 : decode cX2_reckonWait 48 = .ok (.aload_n 0, 1) := by decide +kernel
theorem dX2_reckonWait_49 : decode cX2_reckonWait 49 = .ok (.iload 5, 2) := by decide +kernel
theorem dX2_reckonWait_51 : decode cX2_reckonWait 51 = .ok (.putfield 25, 3) := by decide +kernel
theorem dX2_reckonWait_54 : decode cX2_reckonWait 54 = .ok (.aload_n 0, 1) := by decide +kernel
theorem dX2_reckonWait_55 : decode cX2_reckonWait 55 = .ok (.iload 6, 2) := by decide +kernel
theorem dX2_reckonWait_57 : decode cX2_reckonWait 57 = .ok (.putfield 21, 3) := by decide +kernel
theorem dX2_reckonWait_60 : decode cX2_reckonWait 60 = .ok (.iinc 6 1, 3) := by decide +kernel
theorem dX2_reckonWait_63 : decode cX2_reckonWait 63 = .ok (.goto (-47), 3) := by decide +kernel
theorem dX2_reckonWait_66 : decode cX2_reckonWait 66 = .ok (.return_, 1) := by decide +kernel
theorem f_x_likelihood_rows : True := trivial
theorem dX2_likelihood_0 : decode cX2_likelihood 0 = .ok (.aload_n 0, 1) := by decide +kernel
theorem dX2_likelihood_1 : decode cX2_likelihood 1 = .ok (.iload_n 1, 1) := by decide +kernel
theorem dX2_likelihood_2 : decode cX2_likelihood 2 = .ok (.iload_n 2, 1) := by decide +kernel
theorem dX2_likelihood_3 : decode cX2_likelihood 3 = .ok (.invokevirtual 74, 3) := by decide +kernel
theorem dX2_likelihood_6 : decode cX2_likelihood 6 = .ok (.istore 4, 2) := by decide +kernel
theorem dX2_likelihood_8 : decode cX2_likelihood 8 = .ok (.iload_n 3, 1) := by decide +kernel
theorem dX2_likelihood_9 : decode cX2_likelihood 9 = .ok (.ifCond .eq 8, 3) := by decide +kernel
theorem dX2_likelihood_12 : decode cX2_likelihood 12 = .ok (.iload 4, 2) := by decide +kernel
theorem dX2_likelihood_14 : decode cX2_likelihood 14 = .ok (.goto 8, 3) := by decide +kernel
theorem dX2_likelihood_17 : decode cX2_likelihood 17 = .ok (.bipush 100, 2) := by decide +kernel
theorem dX2_likelihood_19 : decode cX2_likelihood 19 = .ok (.iload 4, 2) := by decide +kernel
theorem dX2_likelihood_21 : decode cX2_likelihood 21 = .ok (.isub, 1) := by decide +kernel
theorem dX2_likelihood_22 : decode cX2_likelihood 22 = .ok (.ireturn, 1) := by decide +kernel
theorem f_x_thoughtOf1_rows : True := trivial
theorem dX2_thoughtOf_0 : decode cX2_thoughtOf 0 = .ok (.ldc2_w 82, 3) := by decide +kernel
theorem dX2_thoughtOf_3 : decode cX2_thoughtOf 3 = .ok (.lstore 4, 2) := by decide +kernel
theorem dX2_thoughtOf_5 : decode cX2_thoughtOf 5 = .ok (.ldc2_w 82, 3) := by decide +kernel
theorem dX2_thoughtOf_8 : decode cX2_thoughtOf 8 = .ok (.lstore 6, 2) := by decide +kernel
theorem dX2_thoughtOf_10 : decode cX2_thoughtOf 10 = .ok (.aload_n 3, 1) := by decide +kernel
theorem dX2_thoughtOf_11 : decode cX2_thoughtOf 11 = .ok (.getfield 84, 3) := by decide +kernel
theorem dX2_thoughtOf_14 : decode cX2_thoughtOf 14 = .ok (.aload_n 1, 1) := by decide +kernel
theorem dX2_thoughtOf_15 : decode cX2_thoughtOf 15 = .ok (.invokevirtual 61, 3) := by decide +kernel
theorem dX2_thoughtOf_18 : decode cX2_thoughtOf 18 = .ok (.aload_n 2, 1) := by decide +kernel
theorem dX2_thoughtOf_19 : decode cX2_thoughtOf 19 = .ok (.invokevirtual 61, 3) := by decide +kernel
theorem dX2_thoughtOf_22 : decode cX2_thoughtOf 22 = .ok (.invokestatic 89, 3) := by decide +kernel
theorem dX2_thoughtOf_25 : decode cX2_thoughtOf 25 = .ok (.invokestatic 89, 3) := by decide +kernel
theorem dX2_thoughtOf_28 : decode cX2_thoughtOf 28 = .ok (.istore 8, 2) := by decide +kernel
theorem dX2_thoughtOf_30 : decode cX2_thoughtOf 30 = .ok (.iconst 0, 1) := by decide +kernel
theorem dX2_thoughtOf_31 : decode cX2_thoughtOf 31 = .ok (.istore 9, 2) := by decide +kernel
theorem dX2_thoughtOf_33 : decode cX2_thoughtOf 33 = .ok (.iconst 0, 1) := by decide +kernel
theorem dX2_thoughtOf_34 : decode cX2_thoughtOf 34 = .ok (.istore 10, 2) := by decide +kernel
theorem dX2_thoughtOf_36 : decode cX2_thoughtOf 36 = .ok (.iload 10, 2) := by decide +kernel
theorem dX2_thoughtOf_38 : decode cX2_thoughtOf 38 = .ok (.iload 8, 2) := by decide +kernel
theorem dX2_thoughtOf_40 : decode cX2_thoughtOf 40 = .ok (.if_icmp .ge 99, 3) := by decide +kernel
theorem dX2_thoughtOf_43 : decode cX2_thoughtOf 43 = .ok (.aload_n 3, 1) := by decide +kernel
theorem dX2_thoughtOf_44 : decode cX2_thoughtOf 44 = .ok (.iload 10, 2) := by decide +kernel
theorem dX2_thoughtOf_46 : decode cX2_thoughtOf 46 = .ok (.invokevirtual 94, 3) := by decide +kernel
theorem dX2_thoughtOf_49 : decode cX2_thoughtOf 49 = .ok (.istore 11, 2) := by decide +kernel
theorem dX2_thoughtOf_51 : decode cX2_thoughtOf 51 = .ok (.lload 4, 2) := by decide +kernel
theorem dX2_thoughtOf_53 : decode cX2_thoughtOf 53 = .ok (.aload_n 1, 1) := by decide +kernel
theorem dX2_thoughtOf_54 : decode cX2_thoughtOf 54 = .ok (.iload 10, 2) := by decide +kernel
theorem dX2_thoughtOf_56 : decode cX2_thoughtOf 56 = .ok (.iload 9, 2) := by decide +kernel
theorem dX2_thoughtOf_58 : decode cX2_thoughtOf 58 = .ok (.iload 11, 2) := by decide +kernel
theorem dX2_thoughtOf_60 : decode cX2_thoughtOf 60 = .ok (.invokestatic 97, 3) := by decide +kernel
theorem dX2_thoughtOf_63 : decode cX2_thoughtOf 63 = .ok (.i2l, 1) := by decide +kernel
theorem dX2_thoughtOf_64 : decode cX2_thoughtOf 64 = .ok (.lmul, 1) := by decide +kernel
theorem dX2_thoughtOf_65 : decode cX2_thoughtOf 65 = .ok (.ldc2_w 101, 3) := by decide +kernel
theorem dX2_thoughtOf_68 : decode cX2_thoughtOf 68 = .ok (.ldiv, 1) := by decide +kernel
theorem dX2_thoughtOf_69 : decode cX2_thoughtOf 69 = .ok (.lstore 4, 2) := by decide +kernel
theorem dX2_thoughtOf_71 : decode cX2_thoughtOf 71 = .ok (.lload 6, 2) := by decide +kernel
theorem dX2_thoughtOf_73 : decode cX2_thoughtOf 73 = .ok (.aload_n 2, 1) := by decide +kernel
theorem dX2_thoughtOf_74 : decode cX2_thoughtOf 74 = .ok (.iload 10, 2) := by decide +kernel
theorem dX2_thoughtOf_76 : decode cX2_thoughtOf 76 = .ok (.iload 9, 2) := by decide +kernel
theorem dX2_thoughtOf_78 : decode cX2_thoughtOf 78 = .ok (.iload 11, 2) := by decide +kernel
theorem dX2_thoughtOf_80 : decode cX2_thoughtOf 80 = .ok (.invokestatic 97, 3) := by decide +kernel
theorem dX2_thoughtOf_83 : decode cX2_thoughtOf 83 = .ok (.i2l, 1) := by decide +kernel
theorem dX2_thoughtOf_84 : decode cX2_thoughtOf 84 = .ok (.lmul, 1) := by decide +kernel
theorem dX2_thoughtOf_85 : decode cX2_thoughtOf 85 = .ok (.ldc2_w 101, 3) := by decide +kernel
theorem dX2_thoughtOf_88 : decode cX2_thoughtOf 88 = .ok (.ldiv, 1) := by decide +kernel
theorem dX2_thoughtOf_89 : decode cX2_thoughtOf 89 = .ok (.lstore 6, 2) := by decide +kernel
theorem dX2_thoughtOf_91 : decode cX2_thoughtOf 91 = .ok (.lload 4, 2) := by decide +kernel
theorem dX2_thoughtOf_93 : decode cX2_thoughtOf 93 = .ok (.lload 6, 2) := by decide +kernel
theorem dX2_thoughtOf_95 : decode cX2_thoughtOf 95 = .ok (.invokestatic 103, 3) := by decide +kernel
theorem dX2_thoughtOf_98 : decode cX2_thoughtOf 98 = .ok (.lstore 12, 2) := by decide +kernel
theorem dX2_thoughtOf_100 : decode cX2_thoughtOf 100 = .ok (.lload 12, 2) := by decide +kernel
theorem dX2_thoughtOf_102 : decode cX2_thoughtOf 102 = .ok (.lconst 0, 1) := by decide +kernel
theorem dX2_thoughtOf_103 : decode cX2_thoughtOf 103 = .ok (.lcmp, 1) := by decide +kernel
theorem dX2_thoughtOf_104 : decode cX2_thoughtOf 104 = .ok (.ifCond .le 25, 3) := by decide +kernel
theorem dX2_thoughtOf_107 : decode cX2_thoughtOf 107 = .ok (.lload 4, 2) := by decide +kernel
theorem dX2_thoughtOf_109 : decode cX2_thoughtOf 109 = .ok (.ldc2_w 107, 3) := by decide +kernel
theorem dX2_thoughtOf_112 : decode cX2_thoughtOf 112 = .ok (.lmul, 1) := by decide +kernel
theorem dX2_thoughtOf_113 : decode cX2_thoughtOf 113 = .ok (.lload 12, 2) := by decide +kernel
theorem dX2_thoughtOf_115 : decode cX2_thoughtOf 115 = .ok (.ldiv, 1) := by decide +kernel
theorem dX2_thoughtOf_116 : decode cX2_thoughtOf 116 = .ok (.lstore 4, 2) := by decide +kernel
theorem dX2_thoughtOf_118 : decode cX2_thoughtOf 118 = .ok (.lload 6, 2) := by decide +kernel
theorem dX2_thoughtOf_120 : decode cX2_thoughtOf 120 = .ok (.ldc2_w 107, 3) := by decide +kernel
theorem dX2_thoughtOf_123 : decode cX2_thoughtOf 123 = .ok (.lmul, 1) := by decide +kernel
theorem dX2_thoughtOf_124 : decode cX2_thoughtOf 124 = .ok (.lload 12, 2) := by decide +kernel
theorem dX2_thoughtOf_126 : decode cX2_thoughtOf 126 = .ok (.ldiv, 1) := by decide +kernel
theorem dX2_thoughtOf_127 : decode cX2_thoughtOf 127 = .ok (.lstore 6, 2) := by decide +kernel
theorem dX2_thoughtOf_129 : decode cX2_thoughtOf 129 = .ok (.iload 11, 2) := by decide +kernel
theorem dX2_thoughtOf_131 : decode cX2_thoughtOf 131 = .ok (.istore 9, 2) := by decide +kernel
theorem dX2_thoughtOf_133 : decode cX2_thoughtOf 133 = .ok (.iinc 10 1, 3) := by decide +kernel
theorem dX2_thoughtOf_136 : decode cX2_thoughtOf 136 = .ok (.goto (-100), 3) := by decide +kernel
theorem dX2_thoughtOf_139 : decode cX2_thoughtOf 139 = .ok (.lload 4, 2) := by decide +kernel
theorem dX2_thoughtOf_141 : decode cX2_thoughtOf 141 = .ok (.lload 6, 2) := by decide +kernel
theorem dX2_thoughtOf_143 : decode cX2_thoughtOf 143 = .ok (.ladd, 1) := by decide +kernel
theorem dX2_thoughtOf_144 : decode cX2_thoughtOf 144 = .ok (.lstore 10, 2) := by decide +kernel
theorem dX2_thoughtOf_146 : decode cX2_thoughtOf 146 = .ok (.lload 10, 2) := by decide +kernel
theorem dX2_thoughtOf_148 : decode cX2_thoughtOf 148 = .ok (.lconst 0, 1) := by decide +kernel
theorem dX2_thoughtOf_149 : decode cX2_thoughtOf 149 = .ok (.lcmp, 1) := by decide +kernel
theorem dX2_thoughtOf_150 : decode cX2_thoughtOf 150 = .ok (.ifCond .le 16, 3) := by decide +kernel
theorem dX2_thoughtOf_153 : decode cX2_thoughtOf 153 = .ok (.lload 4, 2) := by decide +kernel
theorem dX2_thoughtOf_155 : decode cX2_thoughtOf 155 = .ok (.ldc2_w 107, 3) := by decide +kernel
theorem dX2_thoughtOf_158 : decode cX2_thoughtOf 158 = .ok (.lmul, 1) := by decide +kernel
theorem dX2_thoughtOf_159 : decode cX2_thoughtOf 159 = .ok (.lload 10, 2) := by decide +kernel
theorem dX2_thoughtOf_161 : decode cX2_thoughtOf 161 = .ok (.ldiv, 1) := by decide +kernel
theorem dX2_thoughtOf_162 : decode cX2_thoughtOf 162 = .ok (.l2i, 1) := by decide +kernel
theorem dX2_thoughtOf_163 : decode cX2_thoughtOf 163 = .ok (.goto 4, 3) := by decide +kernel
theorem dX2_thoughtOf_166 : decode cX2_thoughtOf 166 = .ok (.iconst 0, 1) := by decide +kernel
theorem dX2_thoughtOf_167 : decode cX2_thoughtOf 167 = .ok (.ireturn, 1) := by decide +kernel
theorem f_x_eveningOf_rows : True := trivial
theorem dX2_eveningOf_0 : decode cX2_eveningOf 0 = .ok (.aload_n 2, 1) := by decide +kernel
theorem dX2_eveningOf_1 : decode cX2_eveningOf 1 = .ok (.aload_n 1, 1) := by decide +kernel
theorem dX2_eveningOf_2 : decode cX2_eveningOf 2 = .ok (.invokevirtual 28, 3) := by decide +kernel
theorem dX2_eveningOf_5 : decode cX2_eveningOf 5 = .ok (.istore 4, 2) := by decide +kernel
theorem dX2_eveningOf_7 : decode cX2_eveningOf 7 = .ok (.iconst 0, 1) := by decide +kernel
theorem dX2_eveningOf_8 : decode cX2_eveningOf 8 = .ok (.istore 5, 2) := by decide +kernel
theorem dX2_eveningOf_10 : decode cX2_eveningOf 10 = .ok (.iconst 0, 1) := by decide +kernel
theorem dX2_eveningOf_11 : decode cX2_eveningOf 11 = .ok (.istore 6, 2) := by decide +kernel
theorem dX2_eveningOf_13 : decode cX2_eveningOf 13 = .ok (.iload 6, 2) := by decide +kernel
theorem dX2_eveningOf_15 : decode cX2_eveningOf 15 = .ok (.iload 4, 2) := by decide +kernel
theorem dX2_eveningOf_17 : decode cX2_eveningOf 17 = .ok (.if_icmp .gt 127, 3) := by decide +kernel
theorem dX2_eveningOf_20 : decode cX2_eveningOf 20 = .ok (.iconst 0, 1) := by decide +kernel
theorem dX2_eveningOf_21 : decode cX2_eveningOf 21 = .ok (.istore 7, 2) := by decide +kernel
theorem dX2_eveningOf_23 : decode cX2_eveningOf 23 = .ok (.iconst 0, 1) := by decide +kernel
theorem dX2_eveningOf_24 : decode cX2_eveningOf 24 = .ok (.istore 8, 2) := by decide +kernel
theorem dX2_eveningOf_26 : decode cX2_eveningOf 26 = .ok (.iconst 0, 1) := by decide +kernel
theorem dX2_eveningOf_27 : decode cX2_eveningOf 27 = .ok (.istore 9, 2) := by decide +kernel
theorem dX2_eveningOf_29 : decode cX2_eveningOf 29 = .ok (.iload 9, 2) := by decide +kernel
theorem dX2_eveningOf_31 : decode cX2_eveningOf 31 = .ok (.aload_n 1, 1) := by decide +kernel
theorem dX2_eveningOf_32 : decode cX2_eveningOf 32 = .ok (.invokevirtual 61, 3) := by decide +kernel
theorem dX2_eveningOf_35 : decode cX2_eveningOf 35 = .ok (.if_icmp .ge 87, 3) := by decide +kernel
theorem dX2_eveningOf_38 : decode cX2_eveningOf 38 = .ok (.aload_n 3, 1) := by decide +kernel
theorem dX2_eveningOf_39 : decode cX2_eveningOf 39 = .ok (.invokevirtual 109, 3) := by decide +kernel
theorem dX2_eveningOf_42 : decode cX2_eveningOf 42 = .ok (.aload_n 1, 1) := by decide +kernel
theorem dX2_eveningOf_43 : decode cX2_eveningOf 43 = .ok (.iload 9, 2) := by decide +kernel
theorem dX2_eveningOf_45 : decode cX2_eveningOf 45 = .ok (.iload 8, 2) := by decide +kernel
theorem dX2_eveningOf_47 : decode cX2_eveningOf 47 = .ok (.invokevirtual 74, 3) := by decide +kernel
theorem dX2_eveningOf_50 : decode cX2_eveningOf 50 = .ok (.if_icmp .ge 7, 3) := by decide +kernel
theorem dX2_eveningOf_53 : decode cX2_eveningOf 53 = .ok (.iconst 1, 1) := by decide +kernel
theorem dX2_eveningOf_54 : decode cX2_eveningOf 54 = .ok (.goto 4, 3) := by decide +kernel
theorem dX2_eveningOf_57 : decode cX2_eveningOf 57 = .ok (.iconst 0, 1) := by decide +kernel
theorem dX2_eveningOf_58 : decode cX2_eveningOf 58 = .ok (.istore 10, 2) := by decide +kernel
theorem dX2_eveningOf_60 : decode cX2_eveningOf 60 = .ok (.iload 10, 2) := by decide +kernel
theorem dX2_eveningOf_62 : decode cX2_eveningOf 62 = .ok (.ifCond .eq 26, 3) := by decide +kernel
theorem dX2_eveningOf_65 : decode cX2_eveningOf 65 = .ok (.iload 9, 2) := by decide +kernel
theorem dX2_eveningOf_67 : decode cX2_eveningOf 67 = .ok (.aload_n 2, 1) := by decide +kernel
theorem dX2_eveningOf_68 : decode cX2_eveningOf 68 = .ok (.iload 7, 2) := by decide +kernel
theorem dX2_eveningOf_70 : decode cX2_eveningOf 70 = .ok (.invokevirtual 71, 3) := by decide +kernel
theorem dX2_eveningOf_73 : decode cX2_eveningOf 73 = .ok (.if_icmp .lt 15, 3) := by decide +kernel
theorem dX2_eveningOf_76 : decode cX2_eveningOf 76 = .ok (.iload 5, 2) := by decide +kernel
theorem dX2_eveningOf_78 : decode cX2_eveningOf 78 = .ok (.aload_n 1, 1) := by decide +kernel
theorem dX2_eveningOf_79 : decode cX2_eveningOf 79 = .ok (.iload 6, 2) := by decide +kernel
theorem dX2_eveningOf_81 : decode cX2_eveningOf 81 = .ok (.iload 9, 2) := by decide +kernel
theorem dX2_eveningOf_83 : decode cX2_eveningOf 83 = .ok (.invokevirtual 57, 3) := by decide +kernel
theorem dX2_eveningOf_86 : decode cX2_eveningOf 86 = .ok (.iadd, 1) := by decide +kernel
theorem dX2_eveningOf_87 : decode cX2_eveningOf 87 = .ok (.ireturn, 1) := by decide +kernel
theorem dX2_eveningOf_88 : decode cX2_eveningOf 88 = .ok (.iload 5, 2) := by decide +kernel
theorem dX2_eveningOf_90 : decode cX2_eveningOf 90 = .ok (.aload_n 1, 1) := by decide +kernel
theorem dX2_eveningOf_91 : decode cX2_eveningOf 91 = .ok (.invokevirtual 64, 3) := by decide +kernel
theorem dX2_eveningOf_94 : decode cX2_eveningOf 94 = .ok (.iadd, 1) := by decide +kernel
theorem dX2_eveningOf_95 : decode cX2_eveningOf 95 = .ok (.istore 5, 2) := by decide +kernel
theorem dX2_eveningOf_97 : decode cX2_eveningOf 97 = .ok (.iload 7, 2) := by decide +kernel
theorem dX2_eveningOf_99 : decode cX2_eveningOf 99 = .ok (.iload 10, 2) := by decide +kernel
theorem dX2_eveningOf_101 : decode cX2_eveningOf 101 = .ok (.ifCond .eq 7, 3) := by decide +kernel
theorem dX2_eveningOf_104 : decode cX2_eveningOf 104 = .ok (.iconst 1, 1) := by decide +kernel
theorem dX2_eveningOf_105 : decode cX2_eveningOf 105 = .ok (.goto 4, 3) := by decide +kernel
theorem dX2_eveningOf_108 : decode cX2_eveningOf 108 = .ok (.iconst 0, 1) := by decide +kernel
theorem dX2_eveningOf_109 : decode cX2_eveningOf 109 = .ok (.iadd, 1) := by decide +kernel
theorem dX2_eveningOf_110 : decode cX2_eveningOf 110 = .ok (.istore 7, 2) := by decide +kernel
theorem dX2_eveningOf_112 : decode cX2_eveningOf 112 = .ok (.iload 10, 2) := by decide +kernel
theorem dX2_eveningOf_114 : decode cX2_eveningOf 114 = .ok (.istore 8, 2) := by decide +kernel
theorem dX2_eveningOf_116 : decode cX2_eveningOf 116 = .ok (.iinc 9 1, 3) := by decide +kernel
theorem dX2_eveningOf_119 : decode cX2_eveningOf 119 = .ok (.goto (-90), 3) := by decide +kernel
theorem dX2_eveningOf_122 : decode cX2_eveningOf 122 = .ok (.iload 6, 2) := by decide +kernel
theorem dX2_eveningOf_124 : decode cX2_eveningOf 124 = .ok (.iload 4, 2) := by decide +kernel
theorem dX2_eveningOf_126 : decode cX2_eveningOf 126 = .ok (.if_icmp .ge 12, 3) := by decide +kernel
theorem dX2_eveningOf_129 : decode cX2_eveningOf 129 = .ok (.iload 5, 2) := by decide +kernel
theorem dX2_eveningOf_131 : decode cX2_eveningOf 131 = .ok (.aload_n 1, 1) := by decide +kernel
theorem dX2_eveningOf_132 : decode cX2_eveningOf 132 = .ok (.invokevirtual 42, 3) := by decide +kernel
theorem dX2_eveningOf_135 : decode cX2_eveningOf 135 = .ok (.iadd, 1) := by decide +kernel
theorem dX2_eveningOf_136 : decode cX2_eveningOf 136 = .ok (.istore 5, 2) := by decide +kernel
theorem dX2_eveningOf_138 : decode cX2_eveningOf 138 = .ok (.iinc 6 1, 3) := by decide +kernel
theorem dX2_eveningOf_141 : decode cX2_eveningOf 141 = .ok (.goto (-128), 3) := by decide +kernel
theorem dX2_eveningOf_144 : decode cX2_eveningOf 144 = .ok (.iload 5, 2) := by decide +kernel
theorem dX2_eveningOf_146 : decode cX2_eveningOf 146 = .ok (.aload_n 1, 1) := by decide +kernel
theorem dX2_eveningOf_147 : decode cX2_eveningOf 147 = .ok (.iload 4, 2) := by decide +kernel
theorem dX2_eveningOf_149 : decode cX2_eveningOf 149 = .ok (.invokevirtual 48, 3) := by decide +kernel
theorem dX2_eveningOf_152 : decode cX2_eveningOf 152 = .ok (.iadd, 1) := by decide +kernel
theorem dX2_eveningOf_153 : decode cX2_eveningOf 153 = .ok (.ireturn, 1) := by decide +kernel
theorem tw_19 : Cond.selects RX1 yX1_leftBehind yX1_leftBehind ∈ LW := LWm (i := 19) (by decide +kernel) rfl
theorem tw_20 : Cond.selects RX1 yX1_placeFrom yX1_placeFrom ∈ LW := LWm (i := 20) (by decide +kernel) rfl
theorem tw_22 : Cond.selects RX1 yX1_bestBar yX1_bestBar ∈ LW := LWm (i := 22) (by decide +kernel) rfl
theorem tw_23 : Cond.selects RX1 yX1_paidAt yX1_paidAt ∈ LW := LWm (i := 23) (by decide +kernel) rfl
theorem tw_24 : Cond.selects RX1 yX1_changeInTurn yX1_changeInTurn ∈ LW := LWm (i := 24) (by decide +kernel) rfl
theorem tw_25 : Cond.selects RX1 yX1_giveDoor yX1_giveDoor ∈ LW := LWm (i := 25) (by decide +kernel) rfl
theorem tw_84 : Cond.initialized RX1 ∈ LW := LWm1 (i := 6) (by decide +kernel) rfl
theorem tw_174 : Cond.fieldLink RX1 56 "LastPlace$Scene" "walks" "[I" ∈ LW := LWm1 (i := 96) (by decide +kernel) rfl
theorem tw_176 : Cond.fieldLink RX1 44 "LastPlace$Scene" "bars" "[I" ∈ LW := LWm1 (i := 98) (by decide +kernel) rfl
theorem tw_179 : Cond.fieldLink RX1 53 "LastPlace$Scene" "carCount" "I" ∈ LW := LWm1 (i := 101) (by decide +kernel) rfl
theorem tw_235 : Cond.fieldLink RX1 34 "LastPlace$Parking" "scene" "LLastPlace$Scene;" ∈ LW := LWm1 (i := 157) (by decide +kernel) rfl
theorem tw_236 : Cond.fieldLink RX1 9 "LastPlace$Parking" "bars" "[I" ∈ LW := LWm1 (i := 158) (by decide +kernel) rfl
theorem tw_238 : Cond.fieldLink RX1 15 "LastPlace$Parking" "costs" "[I" ∈ LW := LWm1 (i := 160) (by decide +kernel) rfl
theorem tw_239 : Cond.fieldLink RX1 18 "LastPlace$Parking" "given" "[I" ∈ LW := LWm1 (i := 161) (by decide +kernel) rfl
theorem tw_240 : Cond.fieldLink RX1 21 "LastPlace$Parking" "n" "I" ∈ LW := LWm1 (i := 162) (by decide +kernel) rfl
theorem tw_241 : Cond.fieldLink RX1 25 "LastPlace$Parking" "free" "I" ∈ LW := LWm1 (i := 163) (by decide +kernel) rfl
theorem tw_242 : Cond.fieldLink RX1 28 "LastPlace$Parking" "dearFrom" "I" ∈ LW := LWm1 (i := 164) (by decide +kernel) rfl
theorem tw_243 : Cond.fieldLink RX1 31 "LastPlace$Parking" "dearer" "I" ∈ LW := LWm1 (i := 165) (by decide +kernel) rfl
theorem tw_825 : Cond.methodLink RX1 38 yX5_doors ∈ LW := LWm4 (i := 27) (by decide +kernel) rfl
theorem tw_826 : Cond.methodLink RX1 47 arraycopyName ∈ LW := LWm4 (i := 28) (by decide +kernel) rfl
theorem tw_827 : Cond.methodLink RX1 59 yX5_takingBy ∈ LW := LWm4 (i := 29) (by decide +kernel) rfl
theorem tw_828 : Cond.methodLink RX1 63 yX5_passing ∈ LW := LWm4 (i := 30) (by decide +kernel) rfl
theorem tw_829 : Cond.methodLink RX1 66 yX5_garageOf ∈ LW := LWm4 (i := 31) (by decide +kernel) rfl
theorem tw_834 : Cond.methodLink RX1 77 yX1_leftBehind ∈ LW := LWm4 (i := 36) (by decide +kernel) rfl
theorem tw_836 : Cond.instanceMethod yX1_leftBehind ∈ LW := LWm4 (i := 38) (by decide +kernel) rfl
set_option maxRecDepth 100000 in theorem tw_837 : Cond.code yX1_leftBehind cX1_leftBehind 3 (some .int) ∈ LW := LWm4 (i := 39) rfl rfl
theorem tw_838 : Cond.methodLink RX1 74 yX1_placeFrom ∈ LW := LWm4 (i := 40) (by decide +kernel) rfl
theorem tw_840 : Cond.instanceMethod yX1_placeFrom ∈ LW := LWm4 (i := 42) (by decide +kernel) rfl
set_option maxRecDepth 100000 in theorem tw_841 : Cond.code yX1_placeFrom cX1_placeFrom 4 (some .int) ∈ LW := LWm4 (i := 43) rfl rfl
theorem tw_843 : Cond.instanceMethod yX1_costAt ∈ LW := LWm4 (i := 45) (by decide +kernel) rfl
theorem tw_844 : Cond.selects RX1 yX1_costAt yX1_costAt ∈ LW := LWm4 (i := 46) (by decide +kernel) rfl
set_option maxRecDepth 100000 in theorem tw_845 : Cond.code yX1_costAt cX1_costAt 3 (some .int) ∈ LW := LWm4 (i := 47) rfl rfl
theorem tw_855 : Cond.instanceMethod yX1_isAtRest ∈ LW := LWm4 (i := 57) (by decide +kernel) rfl
theorem tw_856 : Cond.selects RX1 yX1_isAtRest yX1_isAtRest ∈ LW := LWm4 (i := 58) (by decide +kernel) rfl
set_option maxRecDepth 100000 in theorem tw_857 : Cond.code yX1_isAtRest cX1_isAtRest 4 (some .boolean) ∈ LW := LWm4 (i := 59) rfl rfl
theorem tw_858 : Cond.methodLink RX1 83 yX1_bestBar ∈ LW := LWm4 (i := 60) (by decide +kernel) rfl
theorem tw_860 : Cond.instanceMethod yX1_bestBar ∈ LW := LWm4 (i := 62) (by decide +kernel) rfl
set_option maxRecDepth 100000 in theorem tw_861 : Cond.code yX1_bestBar cX1_bestBar 8 (some .int) ∈ LW := LWm4 (i := 63) rfl rfl
theorem tw_862 : Cond.methodLink RX1 80 yX1_paidAt ∈ LW := LWm4 (i := 64) (by decide +kernel) rfl
theorem tw_864 : Cond.instanceMethod yX1_paidAt ∈ LW := LWm4 (i := 66) (by decide +kernel) rfl
set_option maxRecDepth 100000 in theorem tw_865 : Cond.code yX1_paidAt cX1_paidAt 4 (some .int) ∈ LW := LWm4 (i := 67) rfl rfl
theorem tw_866 : Cond.methodLink RX1 70 yX1_costAt ∈ LW := LWm4 (i := 68) (by decide +kernel) rfl
theorem tw_872 : Cond.instanceMethod yX1_goByTurns ∈ LW := LWm4 (i := 74) (by decide +kernel) rfl
theorem tw_873 : Cond.selects RX1 yX1_goByTurns yX1_goByTurns ∈ LW := LWm4 (i := 75) (by decide +kernel) rfl
set_option maxRecDepth 100000 in theorem tw_874 : Cond.code yX1_goByTurns cX1_goByTurns 2 (some .int) ∈ LW := LWm4 (i := 76) rfl rfl
theorem tw_875 : Cond.methodLink RX1 86 yX1_changeInTurn ∈ LW := LWm4 (i := 77) (by decide +kernel) rfl
theorem tw_877 : Cond.instanceMethod yX1_changeInTurn ∈ LW := LWm4 (i := 79) (by decide +kernel) rfl
set_option maxRecDepth 100000 in theorem tw_878 : Cond.code yX1_changeInTurn cX1_changeInTurn 5 (some .boolean) ∈ LW := LWm4 (i := 80) rfl rfl
theorem tw_892 : Cond.methodLink RX1 90 yX1_isAtRest ∈ LW := LWm4 (i := 94) (by decide +kernel) rfl
theorem tw_898 : Cond.instanceMethod yX1_costOfAll ∈ LW := LWm4 (i := 100) (by decide +kernel) rfl
theorem tw_899 : Cond.selects RX1 yX1_costOfAll yX1_costOfAll ∈ LW := LWm4 (i := 101) (by decide +kernel) rfl
set_option maxRecDepth 100000 in theorem tw_900 : Cond.code yX1_costOfAll cX1_costOfAll 4 (some .int) ∈ LW := LWm4 (i := 102) rfl rfl
theorem tw_905 : Cond.methodLink RX1 93 yX1_giveDoor ∈ LW := LWm4 (i := 107) (by decide +kernel) rfl
theorem tw_907 : Cond.instanceMethod yX1_giveDoor ∈ LW := LWm4 (i := 109) (by decide +kernel) rfl
set_option maxRecDepth 100000 in theorem tw_908 : Cond.code yX1_giveDoor cX1_giveDoor 6 none ∈ LW := LWm4 (i := 110) rfl rfl
theorem tw_909 : Cond.methodLink RX1 97 yJ9_min_7cf53 ∈ LW := LWm4 (i := 111) (by decide +kernel) rfl
theorem tw_918 : Cond.methodLink RX1 102 yX1_goByTurns ∈ LW := LWm4 (i := 120) (by decide +kernel) rfl
theorem tw_919 : Cond.methodLink RX1 105 yX1_costOfAll ∈ LW := LWm4 (i := 121) (by decide +kernel) rfl
theorem x_glue6 : True := trivial
theorem an16 : ∀ s, s < 16 → ∀ c, c < 4 → ∃ z : Nat, z ≤ s ∧ nI s &&& (((1 : Int32) <<< (nI c &&& 31)) ^^^ (-1)) = nI z := by
  have h : ∀ s, s < 16 → ∀ c, c < 4 → s &&& (15 - 2 ^ c) ≤ s ∧ nI s &&& (((1 : Int32) <<< (nI c &&& 31)) ^^^ (-1)) = nI (s &&& (15 - 2 ^ c)) := by decide +kernel
  intro s hs c hc
  exact ⟨_, (h s hs c hc).1, (h s hs c hc).2⟩

theorem dX1_comeTo_0 : decode cX1_comeTo 0 = .ok (.aload_n 0, 1) := by decide +kernel
theorem dX1_comeTo_1 : decode cX1_comeTo 1 = .ok (.aload_n 1, 1) := by decide +kernel
theorem dX1_comeTo_2 : decode cX1_comeTo 2 = .ok (.invokevirtual 38, 3) := by decide +kernel
theorem dX1_comeTo_5 : decode cX1_comeTo 5 = .ok (.putfield 21, 3) := by decide +kernel
theorem dX1_comeTo_8 : decode cX1_comeTo 8 = .ok (.aload_n 0, 1) := by decide +kernel
theorem dX1_comeTo_9 : decode cX1_comeTo 9 = .ok (.iload_n 2, 1) := by decide +kernel
theorem dX1_comeTo_10 : decode cX1_comeTo 10 = .ok (.putfield 25, 3) := by decide +kernel
theorem dX1_comeTo_13 : decode cX1_comeTo 13 = .ok (.aload_n 0, 1) := by decide +kernel
theorem dX1_comeTo_14 : decode cX1_comeTo 14 = .ok (.iconst 0, 1) := by decide +kernel
theorem dX1_comeTo_15 : decode cX1_comeTo 15 = .ok (.putfield 28, 3) := by decide +kernel
theorem dX1_comeTo_18 : decode cX1_comeTo 18 = .ok (.aload_n 0, 1) := by decide +kernel
theorem dX1_comeTo_19 : decode cX1_comeTo 19 = .ok (.iconst 0, 1) := by decide +kernel
theorem dX1_comeTo_20 : decode cX1_comeTo 20 = .ok (.putfield 31, 3) := by decide +kernel
theorem dX1_comeTo_23 : decode cX1_comeTo 23 = .ok (.aload_n 0, 1) := by decide +kernel
theorem dX1_comeTo_24 : decode cX1_comeTo 24 = .ok (.getfield 34, 3) := by decide +kernel
theorem dX1_comeTo_27 : decode cX1_comeTo 27 = .ok (.getfield 44, 3) := by decide +kernel
theorem dX1_comeTo_30 : decode cX1_comeTo 30 = .ok (.iconst 0, 1) := by decide +kernel
theorem dX1_comeTo_31 : decode cX1_comeTo 31 = .ok (.aload_n 0, 1) := by decide +kernel
theorem dX1_comeTo_32 : decode cX1_comeTo 32 = .ok (.getfield 9, 3) := by decide +kernel
theorem dX1_comeTo_35 : decode cX1_comeTo 35 = .ok (.iconst 0, 1) := by decide +kernel
theorem dX1_comeTo_36 : decode cX1_comeTo 36 = .ok (.iconst 4, 1) := by decide +kernel
theorem dX1_comeTo_37 : decode cX1_comeTo 37 = .ok (.invokestatic 47, 3) := by decide +kernel
theorem dX1_comeTo_40 : decode cX1_comeTo 40 = .ok (.iconst 0, 1) := by decide +kernel
theorem dX1_comeTo_41 : decode cX1_comeTo 41 = .ok (.istore_n 3, 1) := by decide +kernel
theorem dX1_comeTo_42 : decode cX1_comeTo 42 = .ok (.iload_n 3, 1) := by decide +kernel
theorem dX1_comeTo_43 : decode cX1_comeTo 43 = .ok (.aload_n 0, 1) := by decide +kernel
theorem dX1_comeTo_44 : decode cX1_comeTo 44 = .ok (.getfield 34, 3) := by decide +kernel
theorem dX1_comeTo_47 : decode cX1_comeTo 47 = .ok (.getfield 53, 3) := by decide +kernel
theorem dX1_comeTo_50 : decode cX1_comeTo 50 = .ok (.if_icmp .ge 92, 3) := by decide +kernel
theorem dX1_comeTo_53 : decode cX1_comeTo 53 = .ok (.iconst 0, 1) := by decide +kernel
theorem dX1_comeTo_54 : decode cX1_comeTo 54 = .ok (.istore 4, 2) := by decide +kernel
theorem dX1_comeTo_56 : decode cX1_comeTo 56 = .ok (.iload 4, 2) := by decide +kernel
theorem dX1_comeTo_58 : decode cX1_comeTo 58 = .ok (.aload_n 0, 1) := by decide +kernel
theorem dX1_comeTo_59 : decode cX1_comeTo 59 = .ok (.getfield 21, 3) := by decide +kernel
theorem dX1_comeTo_62 : decode cX1_comeTo 62 = .ok (.if_icmp .ge 45, 3) := by decide +kernel
theorem dX1_comeTo_65 : decode cX1_comeTo 65 = .ok (.aload_n 0, 1) := by decide +kernel
theorem dX1_comeTo_66 : decode cX1_comeTo 66 = .ok (.getfield 15, 3) := by decide +kernel
theorem dX1_comeTo_69 : decode cX1_comeTo 69 = .ok (.iload_n 3, 1) := by decide +kernel
theorem dX1_comeTo_70 : decode cX1_comeTo 70 = .ok (.bipush 25, 2) := by decide +kernel
theorem dX1_comeTo_72 : decode cX1_comeTo 72 = .ok (.imul, 1) := by decide +kernel
theorem dX1_comeTo_73 : decode cX1_comeTo 73 = .ok (.iload 4, 2) := by decide +kernel
theorem dX1_comeTo_75 : decode cX1_comeTo 75 = .ok (.iadd, 1) := by decide +kernel
theorem dX1_comeTo_76 : decode cX1_comeTo 76 = .ok (.aload_n 1, 1) := by decide +kernel
theorem dX1_comeTo_77 : decode cX1_comeTo 77 = .ok (.aload_n 0, 1) := by decide +kernel
theorem dX1_comeTo_78 : decode cX1_comeTo 78 = .ok (.getfield 34, 3) := by decide +kernel
theorem dX1_comeTo_81 : decode cX1_comeTo 81 = .ok (.getfield 56, 3) := by decide +kernel
theorem dX1_comeTo_84 : decode cX1_comeTo 84 = .ok (.iload_n 3, 1) := by decide +kernel
theorem dX1_comeTo_85 : decode cX1_comeTo 85 = .ok (.iaload, 1) := by decide +kernel
theorem dX1_comeTo_86 : decode cX1_comeTo 86 = .ok (.iconst 0, 1) := by decide +kernel
theorem dX1_comeTo_87 : decode cX1_comeTo 87 = .ok (.iload 4, 2) := by decide +kernel
theorem dX1_comeTo_89 : decode cX1_comeTo 89 = .ok (.invokevirtual 59, 3) := by decide +kernel
theorem dX1_comeTo_92 : decode cX1_comeTo 92 = .ok (.iload 4, 2) := by decide +kernel
theorem dX1_comeTo_94 : decode cX1_comeTo 94 = .ok (.aload_n 1, 1) := by decide +kernel
theorem dX1_comeTo_95 : decode cX1_comeTo 95 = .ok (.invokevirtual 63, 3) := by decide +kernel
theorem dX1_comeTo_98 : decode cX1_comeTo 98 = .ok (.imul, 1) := by decide +kernel
theorem dX1_comeTo_99 : decode cX1_comeTo 99 = .ok (.iadd, 1) := by decide +kernel
theorem dX1_comeTo_100 : decode cX1_comeTo 100 = .ok (.iastore, 1) := by decide +kernel
theorem dX1_comeTo_101 : decode cX1_comeTo 101 = .ok (.iinc 4 1, 3) := by decide +kernel
theorem dX1_comeTo_104 : decode cX1_comeTo 104 = .ok (.goto (-48), 3) := by decide +kernel
theorem dX1_comeTo_107 : decode cX1_comeTo 107 = .ok (.aload_n 0, 1) := by decide +kernel
theorem dX1_comeTo_108 : decode cX1_comeTo 108 = .ok (.getfield 15, 3) := by decide +kernel
theorem dX1_comeTo_111 : decode cX1_comeTo 111 = .ok (.iload_n 3, 1) := by decide +kernel
theorem dX1_comeTo_112 : decode cX1_comeTo 112 = .ok (.bipush 25, 2) := by decide +kernel
theorem dX1_comeTo_114 : decode cX1_comeTo 114 = .ok (.imul, 1) := by decide +kernel
theorem dX1_comeTo_115 : decode cX1_comeTo 115 = .ok (.aload_n 0, 1) := by decide +kernel
theorem dX1_comeTo_116 : decode cX1_comeTo 116 = .ok (.getfield 21, 3) := by decide +kernel
theorem dX1_comeTo_119 : decode cX1_comeTo 119 = .ok (.iadd, 1) := by decide +kernel
theorem dX1_comeTo_120 : decode cX1_comeTo 120 = .ok (.aload_n 1, 1) := by decide +kernel
theorem dX1_comeTo_121 : decode cX1_comeTo 121 = .ok (.iconst 0, 1) := by decide +kernel
theorem dX1_comeTo_122 : decode cX1_comeTo 122 = .ok (.invokevirtual 66, 3) := by decide +kernel
theorem dX1_comeTo_125 : decode cX1_comeTo 125 = .ok (.aload_n 0, 1) := by decide +kernel
theorem dX1_comeTo_126 : decode cX1_comeTo 126 = .ok (.getfield 21, 3) := by decide +kernel
theorem dX1_comeTo_129 : decode cX1_comeTo 129 = .ok (.aload_n 1, 1) := by decide +kernel
theorem dX1_comeTo_130 : decode cX1_comeTo 130 = .ok (.invokevirtual 63, 3) := by decide +kernel
theorem dX1_comeTo_133 : decode cX1_comeTo 133 = .ok (.imul, 1) := by decide +kernel
theorem dX1_comeTo_134 : decode cX1_comeTo 134 = .ok (.iadd, 1) := by decide +kernel
theorem dX1_comeTo_135 : decode cX1_comeTo 135 = .ok (.iastore, 1) := by decide +kernel
theorem dX1_comeTo_136 : decode cX1_comeTo 136 = .ok (.iinc 3 1, 3) := by decide +kernel
theorem dX1_comeTo_139 : decode cX1_comeTo 139 = .ok (.goto (-97), 3) := by decide +kernel
theorem dX1_comeTo_142 : decode cX1_comeTo 142 = .ok (.return_, 1) := by decide +kernel
set_option maxHeartbeats 4000000 in
set_option maxRecDepth 100000 in
theorem x_comeTo (l : Launch) (D : va_G) (k : Nat → ClassId) (st : Nat → Nat) (lo : Nat) (c0 : Nat) (z0 : Nat) (z1 : Nat) (z2 : Nat) (z3 : Nat) (pn : Int32) (pf : Int32) (pd : Int32) (pe : Int32) (pb : Nat → Nat) (pco : Nat → Int32) (h0 : Nat) (h1 : Nat) (h2 : Nat) (h3 : Nat) (h4 : Nat) (n : Nat) (see : Nat) (tm : Nat) (g : Nat → Int32) (fp : Nat → Int32) (fl : Nat → Int32) (c1 : Nat) (c2 : Nat) (cc : Nat) (rz : Nat) (ro : Int32) (sd : Int32) (wk : Nat → Int32) (br : Nat → Nat) (p1 : Int32) (hn : n ≤ 24) (hcc : cc ≤ 4) (hbr : ∀ j, br j ≤ 24) (hpb : ∀ j, pb j ≤ 24) : CWv l D k st lo yX1_comeTo cX1_comeTo 5 none ({ frames := 1, cells := 0, slots := 0, locals := 60 }) 0 0 [.ref z0, .ref h0, .int p1] [(z0, .inr (1, (fX1 c0 z1 z2 z3 pn pf pd pe))), (aI k z1 4 (nF pb)), (aI k z2 100 pco), (h0, .inr (5, (fX5 h1 h2 h3 h4))), (aI k h1 10 (vv n see tm g)), (aI k h3 24 fp), (aI k h4 4 fl), (c0, .inr (4, (fX4 c1 c2 (nI cc) (nI rz) ro sd))), (aI k c1 4 wk), (aI k c2 4 (nF br))] (fun (u : (Nat → Nat) × (Nat → Int32)) => match u with | (pb_, pco_) => ∀ j, pb_ j ≤ 24) (fun (u : (Nat → Nat) × (Nat → Int32)) => match u with | (pb_, pco_) => [(z0, .inr (1, (fX1 c0 z1 z2 z3 (nI n) p1 0 0))), (aI k z1 4 (nF pb_)), (aI k z2 100 pco_), (h0, .inr (5, (fX5 h1 h2 h3 h4))), (aI k h1 10 (vv n see tm g)), (aI k h3 24 fp), (aI k h4 4 fl), (c0, .inr (4, (fX4 c1 c2 (nI cc) (nI rz) ro sd))), (aI k c1 4 wk), (aI k c2 4 (nF br))]) := by
  intro sz
  refine Met.ofW (cc := cX1_comeTo) (maxL := 5) (ret := none) (by decide) rfl ?_
  intro p e s m args below meth c s₁ B hml hv
  obtain ⟨rfl, hsz, hlo, hP, hK, hDL, hZ⟩ := hv
  have hx := B.exec
  have hb := B.bytes
  have hr := B.returns
  have hts := WS_ts B.pre
  have hown : s.vm.findClass RX1 = some m.cls := findClass_of_methodNamed B.named
  have hlocks := B.notSynchronized
  subst hsz
  have hD := hDL.self (sz := s.heap.size)
  have hAlo := A_lo hDL hlo
  generalize hAe : va_A [(z0, .inr (1, (fX1 c0 z1 z2 z3 pn pf pd pe))), (aI k z1 4 (nF pb)), (aI k z2 100 pco), (h0, .inr (5, (fX5 h1 h2 h3 h4))), (aI k h1 10 (vv n see tm g)), (aI k h3 24 fp), (aI k h4 4 fl), (c0, .inr (4, (fX4 c1 c2 (nI cc) (nI rz) ro sd))), (aI k c1 4 wk), (aI k c2 4 (nF br))] s.heap.size = A at hD hAlo ⊢
  have hA : ∀ q : Nat, s.heap.size ≤ q → A q := fun q h => by rw [← hAe]; exact Or.inr h
  have hS : va_S A s.heap s.heap [] := va_S.rf
  have hl := lv_entry ([.ref z0, .ref h0, .int p1]) (n := 5) (Nat.le_of_ble_eq_true rfl)
  rw [lg_entry_eq]
  generalize (lg_sl ([.ref z0, .ref h0, .int p1]) ++ List.replicate (5 - (lg_sl ([.ref z0, .ref h0, .int p1])).length) Slot.unset).toArray = ls at hl ⊢
  have hl : lv_has ls 5 [(0, .ref z0), (1, .ref h0), (2, .int p1)] := hl
  refine lv_aload_n hx hb dX1_comeTo_0 rfl (lv_at hl 0 rfl) ?_
  refine lv_aload_n hx hb dX1_comeTo_1 rfl (lv_at hl 1 rfl) ?_
  refine ro_i (D := D) (va_runV (As := []) (rest := [.ref z0]) ⟨hx, hb, hml, hown, hts⟩ ((x_doors l D k st lo h0 h1 h2 h3 h4 n see tm g) s.heap.size) (cwV 0 hts (gV tw_825 tw_478 tw_479 tw_81 tw_480) rfl rfl rfl (by decide +kernel) ⟨Nat.le_of_ble_eq_true rfl, Nat.le_of_ble_eq_true rfl⟩) (pV hS hAlo hlo hP hK (va_Dlo hD hAlo) hZ [3, 4] (by decide) rfl (ci := 5) (q := (RX5, TX5, 4)) (q0 := 0) rfl rfl) rfl rfl hl.1 rfl (lv_room (Nat.le_of_ble_eq_true rfl)) dX1_comeTo_2 ⟨Nat.le_of_ble_eq_true rfl, Nat.le_of_ble_eq_true rfl⟩) hS hA hP (fun r_1 H locs hw_1 hP hS => ?_)
  try dsimp only at hw_1
  subst hw_1
  refine va_put (D := D) (ci := 1) (v := .int (nI n)) (ty := .int) (C := RX1) (T := TX1) (N := 8) hx hb hts inX1 tyX1 tyX1_ok nmX1 hown hK hP hD hS 0 rfl rfl 4 (by decide) (hts _ tw_240) (fun _ h9 => h9) rfl (by decide +kernel) rfl rfl (Nat.le_of_ble_eq_true rfl) dX1_comeTo_5 (fun H locs hP hD hS => ?_)
  have hQ9 := pd_mk [(z0, .inr (1, (fX1 c0 z1 z2 z3 (nI n) pf pd pe))), (aI k z1 4 (nF pb)), (aI k z2 100 pco), (h0, .inr (5, (fX5 h1 h2 h3 h4))), (aI k h1 10 (vv n see tm g)), (aI k h3 24 fp), (aI k h4 4 fl), (c0, .inr (4, (fX4 c1 c2 (nI cc) (nI rz) ro sd))), (aI k c1 4 wk), (aI k c2 4 (nF br))] hP hD
  clear hP hD
  obtain ⟨hP, hD⟩ := hQ9
  refine lv_aload_n hx hb dX1_comeTo_8 rfl (lv_at hl 0 rfl) ?_
  refine lv_iload_n hx hb dX1_comeTo_9 rfl (lv_at hl 2 rfl) ?_
  refine va_put (D := D) (ci := 1) (v := .int p1) (ty := .int) (C := RX1) (T := TX1) (N := 8) hx hb hts inX1 tyX1 tyX1_ok nmX1 hown hK hP hD hS 0 rfl rfl 5 (by decide) (hts _ tw_241) (fun _ h9 => h9) rfl (by decide +kernel) rfl rfl (Nat.le_of_ble_eq_true rfl) dX1_comeTo_10 (fun H locs hP hD hS => ?_)
  have hQ9 := pd_mk [(z0, .inr (1, (fX1 c0 z1 z2 z3 (nI n) p1 pd pe))), (aI k z1 4 (nF pb)), (aI k z2 100 pco), (h0, .inr (5, (fX5 h1 h2 h3 h4))), (aI k h1 10 (vv n see tm g)), (aI k h3 24 fp), (aI k h4 4 fl), (c0, .inr (4, (fX4 c1 c2 (nI cc) (nI rz) ro sd))), (aI k c1 4 wk), (aI k c2 4 (nF br))] hP hD
  clear hP hD
  obtain ⟨hP, hD⟩ := hQ9
  refine lv_aload_n hx hb dX1_comeTo_13 rfl (lv_at hl 0 rfl) ?_
  refine lv_iconst (v := 0) hx hb dX1_comeTo_14 (by decide) ?_
  refine va_put (D := D) (ci := 1) (v := .int 0) (ty := .int) (C := RX1) (T := TX1) (N := 8) hx hb hts inX1 tyX1 tyX1_ok nmX1 hown hK hP hD hS 0 rfl rfl 6 (by decide) (hts _ tw_242) (fun _ h9 => h9) rfl (by decide +kernel) rfl rfl (Nat.le_of_ble_eq_true rfl) dX1_comeTo_15 (fun H locs hP hD hS => ?_)
  have hQ9 := pd_mk [(z0, .inr (1, (fX1 c0 z1 z2 z3 (nI n) p1 0 pe))), (aI k z1 4 (nF pb)), (aI k z2 100 pco), (h0, .inr (5, (fX5 h1 h2 h3 h4))), (aI k h1 10 (vv n see tm g)), (aI k h3 24 fp), (aI k h4 4 fl), (c0, .inr (4, (fX4 c1 c2 (nI cc) (nI rz) ro sd))), (aI k c1 4 wk), (aI k c2 4 (nF br))] hP hD
  clear hP hD
  obtain ⟨hP, hD⟩ := hQ9
  refine lv_aload_n hx hb dX1_comeTo_18 rfl (lv_at hl 0 rfl) ?_
  refine lv_iconst (v := 0) hx hb dX1_comeTo_19 (by decide) ?_
  refine va_put (D := D) (ci := 1) (v := .int 0) (ty := .int) (C := RX1) (T := TX1) (N := 8) hx hb hts inX1 tyX1 tyX1_ok nmX1 hown hK hP hD hS 0 rfl rfl 7 (by decide) (hts _ tw_243) (fun _ h9 => h9) rfl (by decide +kernel) rfl rfl (Nat.le_of_ble_eq_true rfl) dX1_comeTo_20 (fun H locs hP hD hS => ?_)
  have hQ9 := pd_mk [(z0, .inr (1, (fX1 c0 z1 z2 z3 (nI n) p1 0 0))), (aI k z1 4 (nF pb)), (aI k z2 100 pco), (h0, .inr (5, (fX5 h1 h2 h3 h4))), (aI k h1 10 (vv n see tm g)), (aI k h3 24 fp), (aI k h4 4 fl), (c0, .inr (4, (fX4 c1 c2 (nI cc) (nI rz) ro sd))), (aI k c1 4 wk), (aI k c2 4 (nF br))] hP hD
  clear hP hD
  obtain ⟨hP, hD⟩ := hQ9
  refine lv_aload_n hx hb dX1_comeTo_23 rfl (lv_at hl 0 rfl) ?_
  refine va_get (D := D) (ci := 1) (v := .ref c0) (C := RX1) (T := TX1) (N := 8) hx hb hts inX1 hown hK hP 0 rfl rfl 0 (by decide) (hts _ tw_235) (fun _ h9 => h9) rfl dX1_comeTo_24 ?_
  refine va_get (D := D) (ci := 4) (v := .ref c2) (C := RX4) (T := TX4) (N := 6) hx hb hts inX4 hown hK hP 7 rfl rfl 1 (by decide) (hts _ tw_176) (fun _ h9 => h9) rfl dX1_comeTo_27 ?_
  refine lv_iconst (v := 0) hx hb dX1_comeTo_30 (by decide) ?_
  refine lv_aload_n hx hb dX1_comeTo_31 rfl (lv_at hl 0 rfl) ?_
  refine va_get (D := D) (ci := 1) (v := .ref z1) (C := RX1) (T := TX1) (N := 8) hx hb hts inX1 hown hK hP 0 rfl rfl 1 (by decide) (hts _ tw_236) (fun _ h9 => h9) rfl dX1_comeTo_32 ?_
  refine lv_iconst (v := 0) hx hb dX1_comeTo_35 (by decide) ?_
  refine lv_iconst (v := 4) hx hb dX1_comeTo_36 (by decide) ?_
  refine va_copyi hx hb (by rw [hml]; exact hl.1.symm) hown (hts _ tw_826) (hts _ tw_366) (hts _ tw_365) (hts _ tw_88) hK hP hD hS 9 1 1 1 rfl rfl rfl rfl rfl (by decide) (by decide) (by decide) (by decide) (by decide) (fun _ _ => rfl) (Nat.le_of_ble_eq_true rfl) (Nat.le_of_ble_eq_true rfl) dX1_comeTo_37 (fun H locs hP hD hS => ?_)
  have hQ9 := pd_mk [(z0, .inr (1, (fX1 c0 z1 z2 z3 (nI n) p1 0 0))), (aI k z1 4 (va_cpy (nF br) (nF pb) 0 0 4)), (aI k z2 100 pco), (h0, .inr (5, (fX5 h1 h2 h3 h4))), (aI k h1 10 (vv n see tm g)), (aI k h3 24 fp), (aI k h4 4 fl), (c0, .inr (4, (fX4 c1 c2 (nI cc) (nI rz) ro sd))), (aI k c1 4 wk), (aI k c2 4 (nF br))] hP hD
  clear hP hD
  obtain ⟨hP, hD⟩ := hQ9
  obtain ⟨d_2, hd_2, hbb_2⟩ := nF_cpy hbr hpb
  rw [show va_cpy (nF br) (nF pb) 0 0 4 = nF d_2 from hd_2] at hP hD
  have hQ9 := pd_mk [(z0, .inr (1, (fX1 c0 z1 z2 z3 (nI n) p1 0 0))), (aI k z1 4 (nF d_2)), (aI k z2 100 pco), (h0, .inr (5, (fX5 h1 h2 h3 h4))), (aI k h1 10 (vv n see tm g)), (aI k h3 24 fp), (aI k h4 4 fl), (c0, .inr (4, (fX4 c1 c2 (nI cc) (nI rz) ro sd))), (aI k c1 4 wk), (aI k c2 4 (nF br))] hP hD
  clear hP hD
  obtain ⟨hP, hD⟩ := hQ9
  refine lv_iconst (v := 0) hx hb dX1_comeTo_40 (by decide) ?_
  refine lv_istore_n (lv' := [(3, .int 0), (0, .ref z0), (1, .ref h0), (2, .int p1)]) hx hb dX1_comeTo_41 rfl hl (by decide) rfl (fun ls hl => ?_)
  refine W_loop (σ := Nat × (Nat → Int32)) (fun (n_ : Nat) (x_ : Nat × (Nat → Int32)) (H : Heap) (locs : List Loc) (ls : Array Slot) => match x_ with | (cn2_4, pco2_4) => n_ = 5 - cn2_4 ∧ (cn2_4 ≤ 4) ∧ va_P D classes [(z0, .inr (1, (fX1 c0 z1 z2 z3 (nI n) p1 0 0))), (aI k z1 4 (nF d_2)), (aI k z2 100 pco2_4), (h0, .inr (5, (fX5 h1 h2 h3 h4))), (aI k h1 10 (vv n see tm g)), (aI k h3 24 fp), (aI k h4 4 fl), (c0, .inr (4, (fX4 c1 c2 (nI cc) (nI rz) ro sd))), (aI k c1 4 wk), (aI k c2 4 (nF br))] H ∧ va_D A [(z0, .inr (1, (fX1 c0 z1 z2 z3 (nI n) p1 0 0))), (aI k z1 4 (nF d_2)), (aI k z2 100 pco2_4), (h0, .inr (5, (fX5 h1 h2 h3 h4))), (aI k h1 10 (vv n see tm g)), (aI k h3 24 fp), (aI k h4 4 fl), (c0, .inr (4, (fX4 c1 c2 (nI cc) (nI rz) ro sd))), (aI k c1 4 wk), (aI k c2 4 (nF br))] ∧ va_S A s.heap H locs ∧ lv_has ls 5 [(3, .int (nI cn2_4)), (0, .ref z0), (1, .ref h0), (2, .int p1)]) (fun n_4 x_4 H locs ls hI ih_4 => ?_) _ (0, pco) ⟨rfl, (by omega), hP, hD, hS, (lv_sub hl [0, 1, 2, 3] rfl)⟩
  obtain ⟨cn2_4, pco2_4⟩ := x_4
  obtain ⟨hm_4, hv_4, hP, hD, hS, hl⟩ := hI
  subst hm_4
  refine lv_iload_n hx hb dX1_comeTo_42 rfl (lv_at hl 0 rfl) ?_
  refine lv_aload_n hx hb dX1_comeTo_43 rfl (lv_at hl 1 rfl) ?_
  refine va_get (D := D) (ci := 1) (v := .ref c0) (C := RX1) (T := TX1) (N := 8) hx hb hts inX1 hown hK hP 0 rfl rfl 0 (by decide) (hts _ tw_235) (fun _ h9 => h9) rfl dX1_comeTo_44 ?_
  refine va_get (D := D) (ci := 4) (v := .int (nI cc)) (C := RX4) (T := TX4) (N := 6) hx hb hts inX4 hown hK hP 7 rfl rfl 2 (by decide) (hts _ tw_179) (fun _ h9 => h9) rfl dX1_comeTo_47 ?_
  refine lv_icmp_ge (tgt := 142) hx hb dX1_comeTo_50 (by decide) (fun c_5 => ?_) (fun c_5 => ?_)
  · have c_5 := (nI_leI (a := cc) (b := cn2_4) (by omega) (by omega)).mp c_5
    obtain ⟨hP9, hD9⟩ := pd_sub [(z0, .inr (1, (fX1 c0 z1 z2 z3 (nI n) p1 0 0))), (aI k z1 4 (nF d_2)), (aI k z2 100 pco2_4), (h0, .inr (5, (fX5 h1 h2 h3 h4))), (aI k h1 10 (vv n see tm g)), (aI k h3 24 fp), (aI k h4 4 fl), (c0, .inr (4, (fX4 c1 c2 (nI cc) (nI rz) ro sd))), (aI k c1 4 wk), (aI k c2 4 (nF br))] [0, 1, 2, 3, 4, 5, 6, 7, 8, 9] hP hD (by decide +kernel) rfl
    exact W.vret hx hb hr (fun t ht hW => ⟨⟨(d_2, pco2_4), rfl, hbb_2, by rw [ht]; exact hP9, hD9⟩, hS.F ht⟩) hS.2.2 dX1_comeTo_142
  · have c_5 : ¬ (cc ≤ cn2_4) := fun h => c_5 ((nI_leI (a := cc) (b := cn2_4) (by omega) (by omega)).mpr h)
    refine lv_iconst (v := 0) hx hb dX1_comeTo_53 (by decide) ?_
    refine lv_istore (lv' := [(4, .int 0), (3, .int (nI cn2_4)), (0, .ref z0), (1, .ref h0), (2, .int p1)]) hx hb dX1_comeTo_54 hl (by decide) rfl (fun ls hl => ?_)
    refine W_loop (σ := Nat × (Nat → Int32)) (fun (n_ : Nat) (x_ : Nat × (Nat → Int32)) (H : Heap) (locs : List Loc) (ls : Array Slot) => match x_ with | (ii_6, pco2_6) => n_ = 25 - ii_6 ∧ (ii_6 ≤ n) ∧ va_P D classes [(z0, .inr (1, (fX1 c0 z1 z2 z3 (nI n) p1 0 0))), (aI k z1 4 (nF d_2)), (aI k z2 100 pco2_6), (h0, .inr (5, (fX5 h1 h2 h3 h4))), (aI k h1 10 (vv n see tm g)), (aI k h3 24 fp), (aI k h4 4 fl), (c0, .inr (4, (fX4 c1 c2 (nI cc) (nI rz) ro sd))), (aI k c1 4 wk), (aI k c2 4 (nF br))] H ∧ va_D A [(z0, .inr (1, (fX1 c0 z1 z2 z3 (nI n) p1 0 0))), (aI k z1 4 (nF d_2)), (aI k z2 100 pco2_6), (h0, .inr (5, (fX5 h1 h2 h3 h4))), (aI k h1 10 (vv n see tm g)), (aI k h3 24 fp), (aI k h4 4 fl), (c0, .inr (4, (fX4 c1 c2 (nI cc) (nI rz) ro sd))), (aI k c1 4 wk), (aI k c2 4 (nF br))] ∧ va_S A s.heap H locs ∧ lv_has ls 5 [(4, .int (nI ii_6)), (3, .int (nI cn2_4)), (0, .ref z0), (1, .ref h0), (2, .int p1)]) (fun n_6 x_6 H locs ls hI ih_6 => ?_) _ (0, pco2_4) ⟨rfl, (by omega), hP, hD, hS, (lv_sub hl [0, 1, 2, 3, 4] rfl)⟩
    obtain ⟨ii_6, pco2_6⟩ := x_6
    obtain ⟨hm_6, hv_6, hP, hD, hS, hl⟩ := hI
    subst hm_6
    refine lv_iload hx hb dX1_comeTo_56 (lv_at hl 0 rfl) ?_
    refine lv_aload_n hx hb dX1_comeTo_58 rfl (lv_at hl 2 rfl) ?_
    refine va_get (D := D) (ci := 1) (v := .int (nI n)) (C := RX1) (T := TX1) (N := 8) hx hb hts inX1 hown hK hP 0 rfl rfl 4 (by decide) (hts _ tw_240) (fun _ h9 => h9) rfl dX1_comeTo_59 ?_
    refine lv_icmp_ge (tgt := 107) hx hb dX1_comeTo_62 (by decide) (fun c_7 => ?_) (fun c_7 => ?_)
    · have c_7 := (nI_leI (a := n) (b := ii_6) (by omega) (by omega)).mp c_7
      refine lv_aload_n hx hb dX1_comeTo_107 rfl (lv_at hl 2 rfl) ?_
      refine va_get (D := D) (ci := 1) (v := .ref z2) (C := RX1) (T := TX1) (N := 8) hx hb hts inX1 hown hK hP 0 rfl rfl 2 (by decide) (hts _ tw_238) (fun _ h9 => h9) rfl dX1_comeTo_108 ?_
      refine lv_iload_n hx hb dX1_comeTo_111 rfl (lv_at hl 1 rfl) ?_
      refine lv_bipush (v := 25) hx hb dX1_comeTo_112 (by decide) ?_
      refine lv_imul hx hb dX1_comeTo_114 ?_
      refine lv_ti (y := (nI (cn2_4 * 25))) (pk_mul cn2_4 25) ?_
      refine lv_aload_n hx hb dX1_comeTo_115 rfl (lv_at hl 2 rfl) ?_
      refine va_get (D := D) (ci := 1) (v := .int (nI n)) (C := RX1) (T := TX1) (N := 8) hx hb hts inX1 hown hK hP 0 rfl rfl 4 (by decide) (hts _ tw_240) (fun _ h9 => h9) rfl dX1_comeTo_116 ?_
      refine lv_iadd hx hb dX1_comeTo_119 ?_
      refine lv_ti (y := (nI (cn2_4 * 25 + n))) (nI_add (cn2_4 * 25) n) ?_
      refine lv_aload_n hx hb dX1_comeTo_120 rfl (lv_at hl 3 rfl) ?_
      refine lv_iconst (v := 0) hx hb dX1_comeTo_121 (by decide) ?_
      refine ro_i (D := D) (va_runV (As := [.int 0]) (rest := [.int (nI (cn2_4 * 25 + n)), .ref z2]) ⟨hx, hb, hml, hown, hts⟩ ((x_garageOf l D k st lo h0 h1 h2 h3 h4 n see tm g fl 0 (by first | assumption | omega)) H.size) (cwV 1 hts (gV tw_829 tw_521 tw_522 tw_81 tw_523) rfl rfl rfl (by decide +kernel) ⟨Nat.le_of_ble_eq_true rfl, Nat.le_of_ble_eq_true rfl⟩) (pV hS hAlo hlo hP hK (va_Dlo hD hAlo) hZ [3, 4, 6] (by decide) rfl (ci := 5) (q := (RX5, TX5, 4)) (q0 := 0) rfl rfl) rfl rfl hl.1 rfl (lv_room (Nat.le_of_ble_eq_true rfl)) dX1_comeTo_122 ⟨Nat.le_of_ble_eq_true rfl, Nat.le_of_ble_eq_true rfl⟩) hS hA hP (fun r_8 H locs hw_8 hP hS => ?_)
      try dsimp only at hw_8
      refine lv_aload_n hx hb dX1_comeTo_125 rfl (lv_at hl 2 rfl) ?_
      refine va_get (D := D) (ci := 1) (v := .int (nI n)) (C := RX1) (T := TX1) (N := 8) hx hb hts inX1 hown hK hP 0 rfl rfl 4 (by decide) (hts _ tw_240) (fun _ h9 => h9) rfl dX1_comeTo_126 ?_
      refine lv_aload_n hx hb dX1_comeTo_129 rfl (lv_at hl 3 rfl) ?_
      refine ro_i (D := D) (va_runV (As := []) (rest := [.int (nI n), .int r_8, .int (nI (cn2_4 * 25 + n)), .ref z2]) ⟨hx, hb, hml, hown, hts⟩ ((x_passing l D k st lo h0 h1 h2 h3 h4 n see tm g) H.size) (cwV 0 hts (gV tw_828 tw_573 tw_574 tw_81 tw_575) rfl rfl rfl (by decide +kernel) ⟨Nat.le_of_ble_eq_true rfl, Nat.le_of_ble_eq_true rfl⟩) (pV hS hAlo hlo hP hK (va_Dlo hD hAlo) hZ [3, 4] (by decide) rfl (ci := 5) (q := (RX5, TX5, 4)) (q0 := 0) rfl rfl) rfl rfl hl.1 rfl (lv_room (Nat.le_of_ble_eq_true rfl)) dX1_comeTo_130 ⟨Nat.le_of_ble_eq_true rfl, Nat.le_of_ble_eq_true rfl⟩) hS hA hP (fun r_9 H locs hw_9 hP hS => ?_)
      try dsimp only at hw_9
      refine lv_imul hx hb dX1_comeTo_133 ?_
      refine lv_topi (fun x_10 ex_10 => ?_)
      refine lv_iadd hx hb dX1_comeTo_134 ?_
      refine lv_topi (fun x_11 ex_11 => ?_)
      refine va_iast hx hb hK hP hD hS 2 1 rfl rfl (vp_in_nI (by omega) (by decide)) dX1_comeTo_135 (fun H locs hP hD hS => ?_)
      have hQ9 := pd_mk [(z0, .inr (1, (fX1 c0 z1 z2 z3 (nI n) p1 0 0))), (aI k z1 4 (nF d_2)), (aI k z2 100 (upd pco2_6 (Int32.toNatClampNeg (nI (cn2_4 * 25 + n))) x_11)), (h0, .inr (5, (fX5 h1 h2 h3 h4))), (aI k h1 10 (vv n see tm g)), (aI k h3 24 fp), (aI k h4 4 fl), (c0, .inr (4, (fX4 c1 c2 (nI cc) (nI rz) ro sd))), (aI k c1 4 wk), (aI k c2 4 (nF br))] hP hD
      clear hP hD
      obtain ⟨hP, hD⟩ := hQ9
      generalize (upd pco2_6 (Int32.toNatClampNeg (nI (cn2_4 * 25 + n))) x_11) = f_12 at hP hD
      refine lv_iinc (v := (nI (cn2_4 + 1))) (lv' := [(3, .int (nI (cn2_4 + 1))), (4, .int (nI ii_6)), (0, .ref z0), (1, .ref h0), (2, .int p1)]) hx hb dX1_comeTo_136 hl (k := 1) rfl (nI_add cn2_4 1) (by decide) rfl (fun ls hl => ?_)
      refine lv_goto (tgt := 42) hx hb dX1_comeTo_139 (by decide) ?_
      exact ih_4 _ (cn2_4 + 1, f_12) _ _ _ (by omega) ⟨rfl, (by omega), hP, hD, hS, (lv_sub hl [0, 2, 3, 4] rfl)⟩
    · have c_7 : ¬ (n ≤ ii_6) := fun h => c_7 ((nI_leI (a := n) (b := ii_6) (by omega) (by omega)).mpr h)
      refine lv_aload_n hx hb dX1_comeTo_65 rfl (lv_at hl 2 rfl) ?_
      refine va_get (D := D) (ci := 1) (v := .ref z2) (C := RX1) (T := TX1) (N := 8) hx hb hts inX1 hown hK hP 0 rfl rfl 2 (by decide) (hts _ tw_238) (fun _ h9 => h9) rfl dX1_comeTo_66 ?_
      refine lv_iload_n hx hb dX1_comeTo_69 rfl (lv_at hl 1 rfl) ?_
      refine lv_bipush (v := 25) hx hb dX1_comeTo_70 (by decide) ?_
      refine lv_imul hx hb dX1_comeTo_72 ?_
      refine lv_ti (y := (nI (cn2_4 * 25))) (pk_mul cn2_4 25) ?_
      refine lv_iload hx hb dX1_comeTo_73 (lv_at hl 0 rfl) ?_
      refine lv_iadd hx hb dX1_comeTo_75 ?_
      refine lv_ti (y := (nI (cn2_4 * 25 + ii_6))) (nI_add (cn2_4 * 25) ii_6) ?_
      refine lv_aload_n hx hb dX1_comeTo_76 rfl (lv_at hl 3 rfl) ?_
      refine lv_aload_n hx hb dX1_comeTo_77 rfl (lv_at hl 2 rfl) ?_
      refine va_get (D := D) (ci := 1) (v := .ref c0) (C := RX1) (T := TX1) (N := 8) hx hb hts inX1 hown hK hP 0 rfl rfl 0 (by decide) (hts _ tw_235) (fun _ h9 => h9) rfl dX1_comeTo_78 ?_
      refine va_get (D := D) (ci := 4) (v := .ref c1) (C := RX4) (T := TX4) (N := 6) hx hb hts inX4 hown hK hP 7 rfl rfl 0 (by decide) (hts _ tw_174) (fun _ h9 => h9) rfl dX1_comeTo_81 ?_
      refine lv_iload_n hx hb dX1_comeTo_84 rfl (lv_at hl 1 rfl) ?_
      refine va_iald hx hb hK hP 8 1 rfl rfl (vp_in_nI (by omega) (by decide)) dX1_comeTo_85 ?_
      refine lv_ti (y := (wk cn2_4)) (by rw [nI_clamp (by omega)]) ?_
      refine lv_iconst (v := 0) hx hb dX1_comeTo_86 (by decide) ?_
      refine lv_iload hx hb dX1_comeTo_87 (lv_at hl 0 rfl) ?_
      refine ro_i (D := D) (va_runV (As := [.int (wk cn2_4), .int 0, .int (nI ii_6)]) (rest := [.int (nI (cn2_4 * 25 + ii_6)), .ref z2]) ⟨hx, hb, hml, hown, hts⟩ ((x_takingBy l D k st lo h0 h1 h2 h3 h4 n see tm g fp fl (wk cn2_4) 0 ii_6 (by first | assumption | omega) (by first | assumption | omega)) H.size) (cwV 3 hts (gV tw_827 tw_561 tw_562 tw_81 tw_563) rfl rfl rfl (by decide +kernel) ⟨Nat.le_of_ble_eq_true rfl, Nat.le_of_ble_eq_true rfl⟩) (pV hS hAlo hlo hP hK (va_Dlo hD hAlo) hZ [3, 4, 5, 6] (by decide) rfl (ci := 5) (q := (RX5, TX5, 4)) (q0 := 0) rfl rfl) rfl rfl hl.1 rfl (lv_room (Nat.le_of_ble_eq_true rfl)) dX1_comeTo_89 ⟨Nat.le_of_ble_eq_true rfl, Nat.le_of_ble_eq_true rfl⟩) hS hA hP (fun r_13 H locs hw_13 hP hS => ?_)
      try dsimp only at hw_13
      refine lv_iload hx hb dX1_comeTo_92 (lv_at hl 0 rfl) ?_
      refine lv_aload_n hx hb dX1_comeTo_94 rfl (lv_at hl 3 rfl) ?_
      refine ro_i (D := D) (va_runV (As := []) (rest := [.int (nI ii_6), .int r_13, .int (nI (cn2_4 * 25 + ii_6)), .ref z2]) ⟨hx, hb, hml, hown, hts⟩ ((x_passing l D k st lo h0 h1 h2 h3 h4 n see tm g) H.size) (cwV 0 hts (gV tw_828 tw_573 tw_574 tw_81 tw_575) rfl rfl rfl (by decide +kernel) ⟨Nat.le_of_ble_eq_true rfl, Nat.le_of_ble_eq_true rfl⟩) (pV hS hAlo hlo hP hK (va_Dlo hD hAlo) hZ [3, 4] (by decide) rfl (ci := 5) (q := (RX5, TX5, 4)) (q0 := 0) rfl rfl) rfl rfl hl.1 rfl (lv_room (Nat.le_of_ble_eq_true rfl)) dX1_comeTo_95 ⟨Nat.le_of_ble_eq_true rfl, Nat.le_of_ble_eq_true rfl⟩) hS hA hP (fun r_14 H locs hw_14 hP hS => ?_)
      try dsimp only at hw_14
      refine lv_imul hx hb dX1_comeTo_98 ?_
      refine lv_topi (fun x_15 ex_15 => ?_)
      refine lv_iadd hx hb dX1_comeTo_99 ?_
      refine lv_topi (fun x_16 ex_16 => ?_)
      refine va_iast hx hb hK hP hD hS 2 1 rfl rfl (vp_in_nI (by omega) (by decide)) dX1_comeTo_100 (fun H locs hP hD hS => ?_)
      have hQ9 := pd_mk [(z0, .inr (1, (fX1 c0 z1 z2 z3 (nI n) p1 0 0))), (aI k z1 4 (nF d_2)), (aI k z2 100 (upd pco2_6 (Int32.toNatClampNeg (nI (cn2_4 * 25 + ii_6))) x_16)), (h0, .inr (5, (fX5 h1 h2 h3 h4))), (aI k h1 10 (vv n see tm g)), (aI k h3 24 fp), (aI k h4 4 fl), (c0, .inr (4, (fX4 c1 c2 (nI cc) (nI rz) ro sd))), (aI k c1 4 wk), (aI k c2 4 (nF br))] hP hD
      clear hP hD
      obtain ⟨hP, hD⟩ := hQ9
      generalize (upd pco2_6 (Int32.toNatClampNeg (nI (cn2_4 * 25 + ii_6))) x_16) = f_17 at hP hD
      refine lv_iinc (v := (nI (ii_6 + 1))) (lv' := [(4, .int (nI (ii_6 + 1))), (3, .int (nI cn2_4)), (0, .ref z0), (1, .ref h0), (2, .int p1)]) hx hb dX1_comeTo_101 hl (k := 0) rfl (nI_add ii_6 1) (by decide) rfl (fun ls hl => ?_)
      refine lv_goto (tgt := 56) hx hb dX1_comeTo_104 (by decide) ?_
      exact ih_6 _ (ii_6 + 1, f_17) _ _ _ (by omega) ⟨rfl, (by omega), hP, hD, hS, (lv_sub hl [0, 1, 2, 3, 4] rfl)⟩

theorem dX1_costAt_0 : decode cX1_costAt 0 = .ok (.aload_n 0, 1) := by decide +kernel
theorem dX1_costAt_1 : decode cX1_costAt 1 = .ok (.getfield 15, 3) := by decide +kernel
theorem dX1_costAt_4 : decode cX1_costAt 4 = .ok (.iload_n 1, 1) := by decide +kernel
theorem dX1_costAt_5 : decode cX1_costAt 5 = .ok (.bipush 25, 2) := by decide +kernel
theorem dX1_costAt_7 : decode cX1_costAt 7 = .ok (.imul, 1) := by decide +kernel
theorem dX1_costAt_8 : decode cX1_costAt 8 = .ok (.iload_n 2, 1) := by decide +kernel
theorem dX1_costAt_9 : decode cX1_costAt 9 = .ok (.iadd, 1) := by decide +kernel
theorem dX1_costAt_10 : decode cX1_costAt 10 = .ok (.iaload, 1) := by decide +kernel
theorem dX1_costAt_11 : decode cX1_costAt 11 = .ok (.ireturn, 1) := by decide +kernel
set_option maxHeartbeats 4000000 in
set_option maxRecDepth 100000 in
theorem x_costAt (l : Launch) (D : va_G) (k : Nat → ClassId) (st : Nat → Nat) (lo : Nat) (c0 : Nat) (z0 : Nat) (z1 : Nat) (z2 : Nat) (z3 : Nat) (pn : Nat) (pf : Int32) (pd : Int32) (pe : Int32) (pco : Nat → Int32) (cn : Nat) (pl : Nat) (hcn : cn < 4) (hpl : pl ≤ 24) : CRi l D k st lo yX1_costAt cX1_costAt 3 (some .int) ({ frames := 0, cells := 0, slots := 0, locals := 0 }) [.ref z0, .int (nI cn), .int (nI pl)] [(z0, .inr (1, (fX1 c0 z1 z2 z3 (nI pn) pf pd pe))), (aI k z2 100 pco)] (fun _ => True) := by
  intro sz
  refine Met.ofW (cc := cX1_costAt) (maxL := 3) (ret := (some .int)) (by decide) rfl ?_
  intro p e s m args below meth c s₁ B hml hv
  obtain ⟨rfl, hsz, hlo, hP, hK, hDL, hZ⟩ := hv
  have hx := B.exec
  have hb := B.bytes
  have hr := B.returns
  have hts := WS_ts B.pre
  have hown : s.vm.findClass RX1 = some m.cls := findClass_of_methodNamed B.named
  have hlocks := B.notSynchronized
  subst hsz
  have hA : ∀ q : Nat, s.heap.size ≤ q → (fun q : Nat => s.heap.size ≤ q) q := fun _ h => h
  have hAlo : ∀ q : Nat, (fun q : Nat => s.heap.size ≤ q) q → lo ≤ q := fun q h => Nat.le_trans hlo h
  have hS : va_S (fun q : Nat => s.heap.size ≤ q) s.heap s.heap [] := va_S.rf
  have hl := lv_entry ([.ref z0, .int (nI cn), .int (nI pl)]) (n := 3) (Nat.le_of_ble_eq_true rfl)
  rw [lg_entry_eq]
  generalize (lg_sl ([.ref z0, .int (nI cn), .int (nI pl)]) ++ List.replicate (3 - (lg_sl ([.ref z0, .int (nI cn), .int (nI pl)])).length) Slot.unset).toArray = ls at hl ⊢
  have hl : lv_has ls 3 [(0, .ref z0), (1, .int (nI cn)), (2, .int (nI pl))] := hl
  refine lv_aload_n hx hb dX1_costAt_0 rfl (lv_at hl 0 rfl) ?_
  refine va_get (D := D) (ci := 1) (v := .ref z2) (C := RX1) (T := TX1) (N := 8) hx hb hts inX1 hown hK hP 0 rfl rfl 2 (by decide) (hts _ tw_238) (fun _ h9 => h9) rfl dX1_costAt_1 ?_
  refine lv_iload_n hx hb dX1_costAt_4 rfl (lv_at hl 1 rfl) ?_
  refine lv_bipush (v := 25) hx hb dX1_costAt_5 (by decide) ?_
  refine lv_imul hx hb dX1_costAt_7 ?_
  refine lv_ti (y := (nI (cn * 25))) (pk_mul cn 25) ?_
  refine lv_iload_n hx hb dX1_costAt_8 rfl (lv_at hl 2 rfl) ?_
  refine lv_iadd hx hb dX1_costAt_9 ?_
  refine lv_ti (y := (nI (cn * 25 + pl))) (nI_add (cn * 25) pl) ?_
  refine va_iald hx hb hK hP 1 1 rfl rfl (vp_in_nI (by omega) (by decide)) dX1_costAt_10 ?_
  refine lv_ti (y := (pco (cn * 25 + pl))) (by rw [nI_clamp (by omega)]) ?_
  exact W.iret (v := (pco (cn * 25 + pl))) hx hb hr (fun t ht hW => ⟨⟨(pco (cn * 25 + pl)), (), rfl, trivial, trivial⟩, hS.F ht⟩) hS.2.2 dX1_costAt_11

theorem dX1_paidAt_0 : decode cX1_paidAt 0 = .ok (.iload_n 2, 1) := by decide +kernel
theorem dX1_paidAt_1 : decode cX1_paidAt 1 = .ok (.aload_n 0, 1) := by decide +kernel
theorem dX1_paidAt_2 : decode cX1_paidAt 2 = .ok (.getfield 28, 3) := by decide +kernel
theorem dX1_paidAt_5 : decode cX1_paidAt 5 = .ok (.if_icmp .lt 15, 3) := by decide +kernel
theorem dX1_paidAt_8 : decode cX1_paidAt 8 = .ok (.iload_n 2, 1) := by decide +kernel
theorem dX1_paidAt_9 : decode cX1_paidAt 9 = .ok (.aload_n 0, 1) := by decide +kernel
theorem dX1_paidAt_10 : decode cX1_paidAt 10 = .ok (.getfield 21, 3) := by decide +kernel
theorem dX1_paidAt_13 : decode cX1_paidAt 13 = .ok (.if_icmp .ge 7, 3) := by decide +kernel
theorem dX1_paidAt_16 : decode cX1_paidAt 16 = .ok (.iconst 1, 1) := by decide +kernel
theorem dX1_paidAt_17 : decode cX1_paidAt 17 = .ok (.goto 4, 3) := by decide +kernel
theorem dX1_paidAt_20 : decode cX1_paidAt 20 = .ok (.iconst 0, 1) := by decide +kernel
theorem dX1_paidAt_21 : decode cX1_paidAt 21 = .ok (.istore_n 3, 1) := by decide +kernel
theorem dX1_paidAt_22 : decode cX1_paidAt 22 = .ok (.aload_n 0, 1) := by decide +kernel
theorem dX1_paidAt_23 : decode cX1_paidAt 23 = .ok (.iload_n 1, 1) := by decide +kernel
theorem dX1_paidAt_24 : decode cX1_paidAt 24 = .ok (.iload_n 2, 1) := by decide +kernel
theorem dX1_paidAt_25 : decode cX1_paidAt 25 = .ok (.invokevirtual 70, 3) := by decide +kernel
theorem dX1_paidAt_28 : decode cX1_paidAt 28 = .ok (.iload_n 3, 1) := by decide +kernel
theorem dX1_paidAt_29 : decode cX1_paidAt 29 = .ok (.ifCond .eq 10, 3) := by decide +kernel
theorem dX1_paidAt_32 : decode cX1_paidAt 32 = .ok (.aload_n 0, 1) := by decide +kernel
theorem dX1_paidAt_33 : decode cX1_paidAt 33 = .ok (.getfield 31, 3) := by decide +kernel
theorem dX1_paidAt_36 : decode cX1_paidAt 36 = .ok (.goto 4, 3) := by decide +kernel
theorem dX1_paidAt_39 : decode cX1_paidAt 39 = .ok (.iconst 0, 1) := by decide +kernel
theorem dX1_paidAt_40 : decode cX1_paidAt 40 = .ok (.iadd, 1) := by decide +kernel
theorem dX1_paidAt_41 : decode cX1_paidAt 41 = .ok (.ireturn, 1) := by decide +kernel
set_option maxHeartbeats 4000000 in
set_option maxRecDepth 100000 in
theorem x_paidAt (l : Launch) (D : va_G) (k : Nat → ClassId) (st : Nat → Nat) (lo : Nat) (c0 : Nat) (z0 : Nat) (z1 : Nat) (z2 : Nat) (z3 : Nat) (pn : Nat) (pf : Int32) (pd : Int32) (pe : Int32) (pco : Nat → Int32) (cn : Nat) (pl : Nat) (hcn : cn < 4) (hpl : pl ≤ 24) (hpn : pn ≤ 24) : CRi l D k st lo yX1_paidAt cX1_paidAt 4 (some .int) ({ frames := 1, cells := 0, slots := 0, locals := 22 }) [.ref z0, .int (nI cn), .int (nI pl)] [(z0, .inr (1, (fX1 c0 z1 z2 z3 (nI pn) pf pd pe))), (aI k z2 100 pco)] (fun _ => True) := by
  intro sz
  refine Met.ofW (cc := cX1_paidAt) (maxL := 4) (ret := (some .int)) (by decide) rfl ?_
  intro p e s m args below meth c s₁ B hml hv
  obtain ⟨rfl, hsz, hlo, hP, hK, hDL, hZ⟩ := hv
  have hx := B.exec
  have hb := B.bytes
  have hr := B.returns
  have hts := WS_ts B.pre
  have hown : s.vm.findClass RX1 = some m.cls := findClass_of_methodNamed B.named
  have hlocks := B.notSynchronized
  subst hsz
  have hA : ∀ q : Nat, s.heap.size ≤ q → (fun q : Nat => s.heap.size ≤ q) q := fun _ h => h
  have hAlo : ∀ q : Nat, (fun q : Nat => s.heap.size ≤ q) q → lo ≤ q := fun q h => Nat.le_trans hlo h
  have hS : va_S (fun q : Nat => s.heap.size ≤ q) s.heap s.heap [] := va_S.rf
  have hl := lv_entry ([.ref z0, .int (nI cn), .int (nI pl)]) (n := 4) (Nat.le_of_ble_eq_true rfl)
  rw [lg_entry_eq]
  generalize (lg_sl ([.ref z0, .int (nI cn), .int (nI pl)]) ++ List.replicate (4 - (lg_sl ([.ref z0, .int (nI cn), .int (nI pl)])).length) Slot.unset).toArray = ls at hl ⊢
  have hl : lv_has ls 4 [(0, .ref z0), (1, .int (nI cn)), (2, .int (nI pl))] := hl
  refine lv_iload_n hx hb dX1_paidAt_0 rfl (lv_at hl 2 rfl) ?_
  refine lv_aload_n hx hb dX1_paidAt_1 rfl (lv_at hl 0 rfl) ?_
  refine va_get (D := D) (ci := 1) (v := .int pd) (C := RX1) (T := TX1) (N := 8) hx hb hts inX1 hown hK hP 0 rfl rfl 6 (by decide) (hts _ tw_242) (fun _ h9 => h9) rfl dX1_paidAt_2 ?_
  refine lv_icmp_lt (tgt := 20) hx hb dX1_paidAt_5 (by decide) (fun c_1 => ?_) (fun c_1 => ?_)
  · refine lv_iconst (v := 0) hx hb dX1_paidAt_20 (by decide) ?_
    refine lv_istore_n (lv' := [(3, .int 0), (0, .ref z0), (1, .int (nI cn)), (2, .int (nI pl))]) hx hb dX1_paidAt_21 rfl hl (by decide) rfl (fun ls hl => ?_)
    refine lv_aload_n hx hb dX1_paidAt_22 rfl (lv_at hl 1 rfl) ?_
    refine lv_iload_n hx hb dX1_paidAt_23 rfl (lv_at hl 2 rfl) ?_
    refine lv_iload_n hx hb dX1_paidAt_24 rfl (lv_at hl 3 rfl) ?_
    refine ro_i (D := D) (va_runV (As := [.int (nI cn), .int (nI pl)]) (rest := []) ⟨hx, hb, hml, hown, hts⟩ ((x_costAt l D k st lo c0 z0 z1 z2 z3 pn pf pd pe pco cn pl (by first | assumption | omega) (by first | assumption | omega)) s.heap.size) (cwV 2 hts (gV tw_866 tw_843 tw_844 tw_84 tw_845) rfl rfl rfl (by decide +kernel) ⟨Nat.le_of_ble_eq_true rfl, Nat.le_of_ble_eq_true rfl⟩) (pV hS hAlo hlo hP hK hDL hZ [0, 1] (by decide) rfl (ci := 1) (q := (RX1, TX1, 8)) (q0 := 0) rfl rfl) rfl rfl hl.1 rfl (lv_room (Nat.le_of_ble_eq_true rfl)) dX1_paidAt_25 ⟨Nat.le_of_ble_eq_true rfl, Nat.le_of_ble_eq_true rfl⟩) hS hA hP (fun r_2 H locs hw_2 hP hS => ?_)
    try dsimp only at hw_2
    refine lv_iload_n hx hb dX1_paidAt_28 rfl (lv_at hl 0 rfl) ?_
    refine lv_if_eq (tgt := 39) hx hb dX1_paidAt_29 (by decide) (fun _ => ?_) (fun h => absurd (by decide) h)
    refine lv_iconst (v := 0) hx hb dX1_paidAt_39 (by decide) ?_
    refine lv_iadd hx hb dX1_paidAt_40 ?_
    refine lv_topi (fun x_3 ex_3 => ?_)
    exact W.iret (v := x_3) hx hb hr (fun t ht hW => ⟨⟨x_3, (), rfl, trivial, trivial⟩, hS.F ht⟩) hS.2.2 dX1_paidAt_41
  · refine lv_iload_n hx hb dX1_paidAt_8 rfl (lv_at hl 2 rfl) ?_
    refine lv_aload_n hx hb dX1_paidAt_9 rfl (lv_at hl 0 rfl) ?_
    refine va_get (D := D) (ci := 1) (v := .int (nI pn)) (C := RX1) (T := TX1) (N := 8) hx hb hts inX1 hown hK hP 0 rfl rfl 4 (by decide) (hts _ tw_240) (fun _ h9 => h9) rfl dX1_paidAt_10 ?_
    refine lv_icmp_ge (tgt := 20) hx hb dX1_paidAt_13 (by decide) (fun c_4 => ?_) (fun c_4 => ?_)
    · have c_4 := (nI_leI (a := pn) (b := pl) (by omega) (by omega)).mp c_4
      refine lv_iconst (v := 0) hx hb dX1_paidAt_20 (by decide) ?_
      refine lv_istore_n (lv' := [(3, .int 0), (0, .ref z0), (1, .int (nI cn)), (2, .int (nI pl))]) hx hb dX1_paidAt_21 rfl hl (by decide) rfl (fun ls hl => ?_)
      refine lv_aload_n hx hb dX1_paidAt_22 rfl (lv_at hl 1 rfl) ?_
      refine lv_iload_n hx hb dX1_paidAt_23 rfl (lv_at hl 2 rfl) ?_
      refine lv_iload_n hx hb dX1_paidAt_24 rfl (lv_at hl 3 rfl) ?_
      refine ro_i (D := D) (va_runV (As := [.int (nI cn), .int (nI pl)]) (rest := []) ⟨hx, hb, hml, hown, hts⟩ ((x_costAt l D k st lo c0 z0 z1 z2 z3 pn pf pd pe pco cn pl (by first | assumption | omega) (by first | assumption | omega)) s.heap.size) (cwV 2 hts (gV tw_866 tw_843 tw_844 tw_84 tw_845) rfl rfl rfl (by decide +kernel) ⟨Nat.le_of_ble_eq_true rfl, Nat.le_of_ble_eq_true rfl⟩) (pV hS hAlo hlo hP hK hDL hZ [0, 1] (by decide) rfl (ci := 1) (q := (RX1, TX1, 8)) (q0 := 0) rfl rfl) rfl rfl hl.1 rfl (lv_room (Nat.le_of_ble_eq_true rfl)) dX1_paidAt_25 ⟨Nat.le_of_ble_eq_true rfl, Nat.le_of_ble_eq_true rfl⟩) hS hA hP (fun r_5 H locs hw_5 hP hS => ?_)
      try dsimp only at hw_5
      refine lv_iload_n hx hb dX1_paidAt_28 rfl (lv_at hl 0 rfl) ?_
      refine lv_if_eq (tgt := 39) hx hb dX1_paidAt_29 (by decide) (fun _ => ?_) (fun h => absurd (by decide) h)
      refine lv_iconst (v := 0) hx hb dX1_paidAt_39 (by decide) ?_
      refine lv_iadd hx hb dX1_paidAt_40 ?_
      refine lv_topi (fun x_6 ex_6 => ?_)
      exact W.iret (v := x_6) hx hb hr (fun t ht hW => ⟨⟨x_6, (), rfl, trivial, trivial⟩, hS.F ht⟩) hS.2.2 dX1_paidAt_41
    · have c_4 : ¬ (pn ≤ pl) := fun h => c_4 ((nI_leI (a := pn) (b := pl) (by omega) (by omega)).mpr h)
      refine lv_iconst (v := 1) hx hb dX1_paidAt_16 (by decide) ?_
      refine lv_goto (tgt := 21) hx hb dX1_paidAt_17 (by decide) ?_
      refine lv_istore_n (lv' := [(3, .int 1), (0, .ref z0), (1, .int (nI cn)), (2, .int (nI pl))]) hx hb dX1_paidAt_21 rfl hl (by decide) rfl (fun ls hl => ?_)
      refine lv_aload_n hx hb dX1_paidAt_22 rfl (lv_at hl 1 rfl) ?_
      refine lv_iload_n hx hb dX1_paidAt_23 rfl (lv_at hl 2 rfl) ?_
      refine lv_iload_n hx hb dX1_paidAt_24 rfl (lv_at hl 3 rfl) ?_
      refine ro_i (D := D) (va_runV (As := [.int (nI cn), .int (nI pl)]) (rest := []) ⟨hx, hb, hml, hown, hts⟩ ((x_costAt l D k st lo c0 z0 z1 z2 z3 pn pf pd pe pco cn pl (by first | assumption | omega) (by first | assumption | omega)) s.heap.size) (cwV 2 hts (gV tw_866 tw_843 tw_844 tw_84 tw_845) rfl rfl rfl (by decide +kernel) ⟨Nat.le_of_ble_eq_true rfl, Nat.le_of_ble_eq_true rfl⟩) (pV hS hAlo hlo hP hK hDL hZ [0, 1] (by decide) rfl (ci := 1) (q := (RX1, TX1, 8)) (q0 := 0) rfl rfl) rfl rfl hl.1 rfl (lv_room (Nat.le_of_ble_eq_true rfl)) dX1_paidAt_25 ⟨Nat.le_of_ble_eq_true rfl, Nat.le_of_ble_eq_true rfl⟩) hS hA hP (fun r_7 H locs hw_7 hP hS => ?_)
      try dsimp only at hw_7
      refine lv_iload_n hx hb dX1_paidAt_28 rfl (lv_at hl 0 rfl) ?_
      refine lv_if_eq (tgt := 39) hx hb dX1_paidAt_29 (by decide) (fun h => absurd h (by decide)) (fun _ => ?_)
      refine lv_aload_n hx hb dX1_paidAt_32 rfl (lv_at hl 1 rfl) ?_
      refine va_get (D := D) (ci := 1) (v := .int pe) (C := RX1) (T := TX1) (N := 8) hx hb hts inX1 hown hK hP 0 rfl rfl 7 (by decide) (hts _ tw_243) (fun _ h9 => h9) rfl dX1_paidAt_33 ?_
      refine lv_goto (tgt := 40) hx hb dX1_paidAt_36 (by decide) ?_
      refine lv_iadd hx hb dX1_paidAt_40 ?_
      refine lv_topi (fun x_8 ex_8 => ?_)
      exact W.iret (v := x_8) hx hb hr (fun t ht hW => ⟨⟨x_8, (), rfl, trivial, trivial⟩, hS.F ht⟩) hS.2.2 dX1_paidAt_41

theorem dX1_placeFrom_0 : decode cX1_placeFrom 0 = .ok (.iload_n 1, 1) := by decide +kernel
theorem dX1_placeFrom_1 : decode cX1_placeFrom 1 = .ok (.istore_n 3, 1) := by decide +kernel
theorem dX1_placeFrom_2 : decode cX1_placeFrom 2 = .ok (.iload_n 3, 1) := by decide +kernel
theorem dX1_placeFrom_3 : decode cX1_placeFrom 3 = .ok (.aload_n 0, 1) := by decide +kernel
theorem dX1_placeFrom_4 : decode cX1_placeFrom 4 = .ok (.getfield 21, 3) := by decide +kernel
theorem dX1_placeFrom_7 : decode cX1_placeFrom 7 = .ok (.if_icmp .ge 19, 3) := by decide +kernel
theorem dX1_placeFrom_10 : decode cX1_placeFrom 10 = .ok (.iload_n 2, 1) := by decide +kernel
theorem dX1_placeFrom_11 : decode cX1_placeFrom 11 = .ok (.iload_n 3, 1) := by decide +kernel
theorem dX1_placeFrom_12 : decode cX1_placeFrom 12 = .ok (.ishr, 1) := by decide +kernel
theorem dX1_placeFrom_13 : decode cX1_placeFrom 13 = .ok (.iconst 1, 1) := by decide +kernel
theorem dX1_placeFrom_14 : decode cX1_placeFrom 14 = .ok (.iand, 1) := by decide +kernel
theorem dX1_placeFrom_15 : decode cX1_placeFrom 15 = .ok (.ifCond .eq 5, 3) := by decide +kernel
theorem dX1_placeFrom_18 : decode cX1_placeFrom 18 = .ok (.iload_n 3, 1) := by decide +kernel
theorem dX1_placeFrom_19 : decode cX1_placeFrom 19 = .ok (.ireturn, 1) := by decide +kernel
theorem dX1_placeFrom_20 : decode cX1_placeFrom 20 = .ok (.iinc 3 1, 3) := by decide +kernel
theorem dX1_placeFrom_23 : decode cX1_placeFrom 23 = .ok (.goto (-21), 3) := by decide +kernel
theorem dX1_placeFrom_26 : decode cX1_placeFrom 26 = .ok (.aload_n 0, 1) := by decide +kernel
theorem dX1_placeFrom_27 : decode cX1_placeFrom 27 = .ok (.getfield 21, 3) := by decide +kernel
theorem dX1_placeFrom_30 : decode cX1_placeFrom 30 = .ok (.ireturn, 1) := by decide +kernel
set_option maxHeartbeats 4000000 in
set_option maxRecDepth 100000 in
theorem x_placeFrom (l : Launch) (D : va_G) (k : Nat → ClassId) (st : Nat → Nat) (lo : Nat) (c0 : Nat) (z0 : Nat) (z1 : Nat) (z2 : Nat) (z3 : Nat) (pn : Nat) (pf : Int32) (pd : Int32) (pe : Int32) (bb : Nat) (p1 : Int32) (hpn : pn ≤ 24) (hbb : bb ≤ 24) : CRi l D k st lo yX1_placeFrom cX1_placeFrom 4 (some .int) ({ frames := 0, cells := 0, slots := 0, locals := 0 }) [.ref z0, .int (nI bb), .int p1] [(z0, .inr (1, (fX1 c0 z1 z2 z3 (nI pn) pf pd pe)))] (fun r => ∃ z : Nat, z ≤ pn ∧ r = nI z) := by
  intro sz
  refine Met.ofW (cc := cX1_placeFrom) (maxL := 4) (ret := (some .int)) (by decide) rfl ?_
  intro p e s m args below meth c s₁ B hml hv
  obtain ⟨rfl, hsz, hlo, hP, hK, hDL, hZ⟩ := hv
  have hx := B.exec
  have hb := B.bytes
  have hr := B.returns
  have hts := WS_ts B.pre
  have hown : s.vm.findClass RX1 = some m.cls := findClass_of_methodNamed B.named
  have hlocks := B.notSynchronized
  subst hsz
  have hA : ∀ q : Nat, s.heap.size ≤ q → (fun q : Nat => s.heap.size ≤ q) q := fun _ h => h
  have hAlo : ∀ q : Nat, (fun q : Nat => s.heap.size ≤ q) q → lo ≤ q := fun q h => Nat.le_trans hlo h
  have hS : va_S (fun q : Nat => s.heap.size ≤ q) s.heap s.heap [] := va_S.rf
  have hl := lv_entry ([.ref z0, .int (nI bb), .int p1]) (n := 4) (Nat.le_of_ble_eq_true rfl)
  rw [lg_entry_eq]
  generalize (lg_sl ([.ref z0, .int (nI bb), .int p1]) ++ List.replicate (4 - (lg_sl ([.ref z0, .int (nI bb), .int p1])).length) Slot.unset).toArray = ls at hl ⊢
  have hl : lv_has ls 4 [(0, .ref z0), (1, .int (nI bb)), (2, .int p1)] := hl
  refine lv_iload_n hx hb dX1_placeFrom_0 rfl (lv_at hl 1 rfl) ?_
  refine lv_istore_n (lv' := [(3, .int (nI bb)), (0, .ref z0), (1, .int (nI bb)), (2, .int p1)]) hx hb dX1_placeFrom_1 rfl hl (by decide) rfl (fun ls hl => ?_)
  refine W_loop (σ := Nat) (fun (n_ : Nat) (ii_1 : Nat) (H : Heap) (locs : List Loc) (ls : Array Slot) => n_ = 25 - ii_1 ∧ (ii_1 ≤ 24) ∧ va_P D classes [(z0, .inr (1, (fX1 c0 z1 z2 z3 (nI pn) pf pd pe)))] H ∧ va_S (fun q : Nat => s.heap.size ≤ q) s.heap H locs ∧ lv_has ls 4 [(3, .int (nI ii_1)), (0, .ref z0), (1, .int (nI bb)), (2, .int p1)]) (fun n_1 x_1 H locs ls hI ih_1 => ?_) _ bb ⟨rfl, (by omega), hP, hS, (lv_sub hl [0, 1, 2, 3] rfl)⟩
  obtain ⟨ii_1, rfl⟩ : ∃ z, z = x_1 := ⟨_, rfl⟩
  obtain ⟨hm_1, hv_1, hP, hS, hl⟩ := hI
  subst hm_1
  refine lv_iload_n hx hb dX1_placeFrom_2 rfl (lv_at hl 0 rfl) ?_
  refine lv_aload_n hx hb dX1_placeFrom_3 rfl (lv_at hl 1 rfl) ?_
  refine va_get (D := D) (ci := 1) (v := .int (nI pn)) (C := RX1) (T := TX1) (N := 8) hx hb hts inX1 hown hK hP 0 rfl rfl 4 (by decide) (hts _ tw_240) (fun _ h9 => h9) rfl dX1_placeFrom_4 ?_
  refine lv_icmp_ge (tgt := 26) hx hb dX1_placeFrom_7 (by decide) (fun c_2 => ?_) (fun c_2 => ?_)
  · have c_2 := (nI_leI (a := pn) (b := ii_1) (by omega) (by omega)).mp c_2
    refine lv_aload_n hx hb dX1_placeFrom_26 rfl (lv_at hl 1 rfl) ?_
    refine va_get (D := D) (ci := 1) (v := .int (nI pn)) (C := RX1) (T := TX1) (N := 8) hx hb hts inX1 hown hK hP 0 rfl rfl 4 (by decide) (hts _ tw_240) (fun _ h9 => h9) rfl dX1_placeFrom_27 ?_
    exact W.iret (v := (nI pn)) hx hb hr (fun t ht hW => ⟨⟨(nI pn), (), rfl, ⟨_, by omega, rfl⟩, trivial⟩, hS.F ht⟩) hS.2.2 dX1_placeFrom_30
  · have c_2 : ¬ (pn ≤ ii_1) := fun h => c_2 ((nI_leI (a := pn) (b := ii_1) (by omega) (by omega)).mpr h)
    refine lv_iload_n hx hb dX1_placeFrom_10 rfl (lv_at hl 3 rfl) ?_
    refine lv_iload_n hx hb dX1_placeFrom_11 rfl (lv_at hl 0 rfl) ?_
    refine lv_ishr hx hb dX1_placeFrom_12 ?_
    refine lv_topi (fun x_3 ex_3 => ?_)
    refine lv_iconst (v := 1) hx hb dX1_placeFrom_13 (by decide) ?_
    refine lv_iand hx hb dX1_placeFrom_14 ?_
    refine lv_topi (fun x_4 ex_4 => ?_)
    refine lv_if_eq (tgt := 20) hx hb dX1_placeFrom_15 (by decide) (fun c_5 => ?_) (fun c_5 => ?_)
    · refine lv_iinc (v := (nI (ii_1 + 1))) (lv' := [(3, .int (nI (ii_1 + 1))), (0, .ref z0), (1, .int (nI bb)), (2, .int p1)]) hx hb dX1_placeFrom_20 hl (k := 0) rfl (nI_add ii_1 1) (by decide) rfl (fun ls hl => ?_)
      refine lv_goto (tgt := 2) hx hb dX1_placeFrom_23 (by decide) ?_
      exact ih_1 _ (ii_1 + 1) _ _ _ (by omega) ⟨rfl, (by omega), hP, hS, (lv_sub hl [0, 1, 2, 3] rfl)⟩
    · refine lv_iload_n hx hb dX1_placeFrom_18 rfl (lv_at hl 0 rfl) ?_
      exact W.iret (v := (nI ii_1)) hx hb hr (fun t ht hW => ⟨⟨(nI ii_1), (), rfl, ⟨_, by omega, rfl⟩, trivial⟩, hS.F ht⟩) hS.2.2 dX1_placeFrom_19

theorem dX1_leftBehind_0 : decode cX1_leftBehind 0 = .ok (.iload_n 2, 1) := by decide +kernel
theorem dX1_leftBehind_1 : decode cX1_leftBehind 1 = .ok (.iconst 1, 1) := by decide +kernel
theorem dX1_leftBehind_2 : decode cX1_leftBehind 2 = .ok (.aload_n 0, 1) := by decide +kernel
theorem dX1_leftBehind_3 : decode cX1_leftBehind 3 = .ok (.aload_n 0, 1) := by decide +kernel
theorem dX1_leftBehind_4 : decode cX1_leftBehind 4 = .ok (.getfield 9, 3) := by decide +kernel
theorem dX1_leftBehind_7 : decode cX1_leftBehind 7 = .ok (.iload_n 1, 1) := by decide +kernel
theorem dX1_leftBehind_8 : decode cX1_leftBehind 8 = .ok (.iaload, 1) := by decide +kernel
theorem dX1_leftBehind_9 : decode cX1_leftBehind 9 = .ok (.iload_n 2, 1) := by decide +kernel
theorem dX1_leftBehind_10 : decode cX1_leftBehind 10 = .ok (.invokevirtual 74, 3) := by decide +kernel
theorem dX1_leftBehind_13 : decode cX1_leftBehind 13 = .ok (.ishl, 1) := by decide +kernel
theorem dX1_leftBehind_14 : decode cX1_leftBehind 14 = .ok (.iconst (-1), 1) := by decide +kernel
theorem dX1_leftBehind_15 : decode cX1_leftBehind 15 = .ok (.ixor, 1) := by decide +kernel
theorem dX1_leftBehind_16 : decode cX1_leftBehind 16 = .ok (.iand, 1) := by decide +kernel
theorem dX1_leftBehind_17 : decode cX1_leftBehind 17 = .ok (.ireturn, 1) := by decide +kernel
set_option maxHeartbeats 4000000 in
set_option maxRecDepth 100000 in
theorem x_leftBehind (l : Launch) (D : va_G) (k : Nat → ClassId) (st : Nat → Nat) (lo : Nat) (c0 : Nat) (z0 : Nat) (z1 : Nat) (z2 : Nat) (z3 : Nat) (pn : Nat) (pf : Int32) (pd : Int32) (pe : Int32) (pb : Nat → Nat) (cn : Nat) (p1 : Int32) (hpn : pn ≤ 24) (hcn : cn < 4) (hpb : ∀ j, pb j ≤ 24) : CRi l D k st lo yX1_leftBehind cX1_leftBehind 3 (some .int) ({ frames := 1, cells := 0, slots := 0, locals := 23 }) [.ref z0, .int (nI cn), .int p1] [(z0, .inr (1, (fX1 c0 z1 z2 z3 (nI pn) pf pd pe))), (aI k z1 4 (nF pb))] (fun _ => True) := by
  intro sz
  refine Met.ofW (cc := cX1_leftBehind) (maxL := 3) (ret := (some .int)) (by decide) rfl ?_
  intro p e s m args below meth c s₁ B hml hv
  obtain ⟨rfl, hsz, hlo, hP, hK, hDL, hZ⟩ := hv
  have hx := B.exec
  have hb := B.bytes
  have hr := B.returns
  have hts := WS_ts B.pre
  have hown : s.vm.findClass RX1 = some m.cls := findClass_of_methodNamed B.named
  have hlocks := B.notSynchronized
  subst hsz
  have hA : ∀ q : Nat, s.heap.size ≤ q → (fun q : Nat => s.heap.size ≤ q) q := fun _ h => h
  have hAlo : ∀ q : Nat, (fun q : Nat => s.heap.size ≤ q) q → lo ≤ q := fun q h => Nat.le_trans hlo h
  have hS : va_S (fun q : Nat => s.heap.size ≤ q) s.heap s.heap [] := va_S.rf
  have hl := lv_entry ([.ref z0, .int (nI cn), .int p1]) (n := 3) (Nat.le_of_ble_eq_true rfl)
  rw [lg_entry_eq]
  generalize (lg_sl ([.ref z0, .int (nI cn), .int p1]) ++ List.replicate (3 - (lg_sl ([.ref z0, .int (nI cn), .int p1])).length) Slot.unset).toArray = ls at hl ⊢
  have hl : lv_has ls 3 [(0, .ref z0), (1, .int (nI cn)), (2, .int p1)] := hl
  refine lv_iload_n hx hb dX1_leftBehind_0 rfl (lv_at hl 2 rfl) ?_
  refine lv_iconst (v := 1) hx hb dX1_leftBehind_1 (by decide) ?_
  refine lv_aload_n hx hb dX1_leftBehind_2 rfl (lv_at hl 0 rfl) ?_
  refine lv_aload_n hx hb dX1_leftBehind_3 rfl (lv_at hl 0 rfl) ?_
  refine va_get (D := D) (ci := 1) (v := .ref z1) (C := RX1) (T := TX1) (N := 8) hx hb hts inX1 hown hK hP 0 rfl rfl 1 (by decide) (hts _ tw_236) (fun _ h9 => h9) rfl dX1_leftBehind_4 ?_
  refine lv_iload_n hx hb dX1_leftBehind_7 rfl (lv_at hl 1 rfl) ?_
  refine va_iald hx hb hK hP 1 1 rfl rfl (vp_in_nI (by omega) (by decide)) dX1_leftBehind_8 ?_
  have hq_1 := hpb cn
  refine lv_ti (y := (nI (pb cn))) (by rw [nI_clamp (by omega)]; rfl) ?_
  refine lv_iload_n hx hb dX1_leftBehind_9 rfl (lv_at hl 2 rfl) ?_
  refine ro_i (D := D) (va_runV (As := [.int (nI (pb cn)), .int p1]) (rest := [.int 1, .int p1]) ⟨hx, hb, hml, hown, hts⟩ ((x_placeFrom l D k st lo c0 z0 z1 z2 z3 pn pf pd pe (pb cn) p1 (by first | assumption | omega) (by first | assumption | omega)) s.heap.size) (cwV 2 hts (gV tw_838 tw_840 tw_20 tw_84 tw_841) rfl rfl rfl (by decide +kernel) ⟨Nat.le_of_ble_eq_true rfl, Nat.le_of_ble_eq_true rfl⟩) (pV hS hAlo hlo hP hK hDL hZ [0] (by decide) rfl (ci := 1) (q := (RX1, TX1, 8)) (q0 := 0) rfl rfl) rfl rfl hl.1 rfl (lv_room (Nat.le_of_ble_eq_true rfl)) dX1_leftBehind_10 ⟨Nat.le_of_ble_eq_true rfl, Nat.le_of_ble_eq_true rfl⟩) hS hA hP (fun r_2 H locs hw_2 hP hS => ?_)
  try dsimp only at hw_2
  obtain ⟨zp_3, hzp_3, rfl⟩ := hw_2
  refine lv_ishl hx hb dX1_leftBehind_13 ?_
  refine lv_topi (fun x_4 ex_4 => ?_)
  refine lv_iconst (v := (-1)) hx hb dX1_leftBehind_14 (by decide) ?_
  refine lv_ixor hx hb dX1_leftBehind_15 ?_
  refine lv_topi (fun x_5 ex_5 => ?_)
  refine lv_iand hx hb dX1_leftBehind_16 ?_
  refine lv_topi (fun x_6 ex_6 => ?_)
  exact W.iret (v := x_6) hx hb hr (fun t ht hW => ⟨⟨x_6, (), rfl, trivial, trivial⟩, hS.F ht⟩) hS.2.2 dX1_leftBehind_17

theorem dX1_placeOf_0 : decode cX1_placeOf 0 = .ok (.aload_n 0, 1) := by decide +kernel
theorem dX1_placeOf_1 : decode cX1_placeOf 1 = .ok (.getfield 25, 3) := by decide +kernel
theorem dX1_placeOf_4 : decode cX1_placeOf 4 = .ok (.istore_n 2, 1) := by decide +kernel
theorem dX1_placeOf_5 : decode cX1_placeOf 5 = .ok (.iconst 0, 1) := by decide +kernel
theorem dX1_placeOf_6 : decode cX1_placeOf 6 = .ok (.istore_n 3, 1) := by decide +kernel
theorem dX1_placeOf_7 : decode cX1_placeOf 7 = .ok (.iload_n 3, 1) := by decide +kernel
theorem dX1_placeOf_8 : decode cX1_placeOf 8 = .ok (.iload_n 1, 1) := by decide +kernel
theorem dX1_placeOf_9 : decode cX1_placeOf 9 = .ok (.if_icmp .ge 16, 3) := by decide +kernel
theorem dX1_placeOf_12 : decode cX1_placeOf 12 = .ok (.aload_n 0, 1) := by decide +kernel
theorem dX1_placeOf_13 : decode cX1_placeOf 13 = .ok (.iload_n 3, 1) := by decide +kernel
theorem dX1_placeOf_14 : decode cX1_placeOf 14 = .ok (.iload_n 2, 1) := by decide +kernel
theorem dX1_placeOf_15 : decode cX1_placeOf 15 = .ok (.invokevirtual 77, 3) := by decide +kernel
theorem dX1_placeOf_18 : decode cX1_placeOf 18 = .ok (.istore_n 2, 1) := by decide +kernel
theorem dX1_placeOf_19 : decode cX1_placeOf 19 = .ok (.iinc 3 1, 3) := by decide +kernel
theorem dX1_placeOf_22 : decode cX1_placeOf 22 = .ok (.goto (-15), 3) := by decide +kernel
theorem dX1_placeOf_25 : decode cX1_placeOf 25 = .ok (.aload_n 0, 1) := by decide +kernel
theorem dX1_placeOf_26 : decode cX1_placeOf 26 = .ok (.aload_n 0, 1) := by decide +kernel
theorem dX1_placeOf_27 : decode cX1_placeOf 27 = .ok (.getfield 9, 3) := by decide +kernel
theorem dX1_placeOf_30 : decode cX1_placeOf 30 = .ok (.iload_n 1, 1) := by decide +kernel
theorem dX1_placeOf_31 : decode cX1_placeOf 31 = .ok (.iaload, 1) := by decide +kernel
theorem dX1_placeOf_32 : decode cX1_placeOf 32 = .ok (.iload_n 2, 1) := by decide +kernel
theorem dX1_placeOf_33 : decode cX1_placeOf 33 = .ok (.invokevirtual 74, 3) := by decide +kernel
theorem dX1_placeOf_36 : decode cX1_placeOf 36 = .ok (.ireturn, 1) := by decide +kernel
set_option maxHeartbeats 4000000 in
set_option maxRecDepth 100000 in
theorem x_placeOf (l : Launch) (D : va_G) (k : Nat → ClassId) (st : Nat → Nat) (lo : Nat) (c0 : Nat) (z0 : Nat) (z1 : Nat) (z2 : Nat) (z3 : Nat) (pn : Nat) (pf : Int32) (pd : Int32) (pe : Int32) (pb : Nat → Nat) (cn : Nat) (hpn : pn ≤ 24) (hcn : cn < 4) (hpb : ∀ j, pb j ≤ 24) : CRi l D k st lo yX1_placeOf cX1_placeOf 4 (some .int) ({ frames := 2, cells := 0, slots := 0, locals := 45 }) [.ref z0, .int (nI cn)] [(z0, .inr (1, (fX1 c0 z1 z2 z3 (nI pn) pf pd pe))), (aI k z1 4 (nF pb))] (fun r => ∃ z : Nat, z ≤ pn ∧ r = nI z) := by
  intro sz
  refine Met.ofW (cc := cX1_placeOf) (maxL := 4) (ret := (some .int)) (by decide) rfl ?_
  intro p e s m args below meth c s₁ B hml hv
  obtain ⟨rfl, hsz, hlo, hP, hK, hDL, hZ⟩ := hv
  have hx := B.exec
  have hb := B.bytes
  have hr := B.returns
  have hts := WS_ts B.pre
  have hown : s.vm.findClass RX1 = some m.cls := findClass_of_methodNamed B.named
  have hlocks := B.notSynchronized
  subst hsz
  have hA : ∀ q : Nat, s.heap.size ≤ q → (fun q : Nat => s.heap.size ≤ q) q := fun _ h => h
  have hAlo : ∀ q : Nat, (fun q : Nat => s.heap.size ≤ q) q → lo ≤ q := fun q h => Nat.le_trans hlo h
  have hS : va_S (fun q : Nat => s.heap.size ≤ q) s.heap s.heap [] := va_S.rf
  have hl := lv_entry ([.ref z0, .int (nI cn)]) (n := 4) (Nat.le_of_ble_eq_true rfl)
  rw [lg_entry_eq]
  generalize (lg_sl ([.ref z0, .int (nI cn)]) ++ List.replicate (4 - (lg_sl ([.ref z0, .int (nI cn)])).length) Slot.unset).toArray = ls at hl ⊢
  have hl : lv_has ls 4 [(0, .ref z0), (1, .int (nI cn))] := hl
  refine lv_aload_n hx hb dX1_placeOf_0 rfl (lv_at hl 0 rfl) ?_
  refine va_get (D := D) (ci := 1) (v := .int pf) (C := RX1) (T := TX1) (N := 8) hx hb hts inX1 hown hK hP 0 rfl rfl 5 (by decide) (hts _ tw_241) (fun _ h9 => h9) rfl dX1_placeOf_1 ?_
  refine lv_istore_n (lv' := [(2, .int pf), (0, .ref z0), (1, .int (nI cn))]) hx hb dX1_placeOf_4 rfl hl (by decide) rfl (fun ls hl => ?_)
  refine lv_iconst (v := 0) hx hb dX1_placeOf_5 (by decide) ?_
  refine lv_istore_n (lv' := [(3, .int 0), (2, .int pf), (0, .ref z0), (1, .int (nI cn))]) hx hb dX1_placeOf_6 rfl hl (by decide) rfl (fun ls hl => ?_)
  refine W_loop (σ := Nat × Int32) (fun (n_ : Nat) (x_ : Nat × Int32) (H : Heap) (locs : List Loc) (ls : Array Slot) => match x_ with | (ii_1, lf_1) => n_ = 5 - ii_1 ∧ (ii_1 ≤ cn) ∧ va_P D classes [(z0, .inr (1, (fX1 c0 z1 z2 z3 (nI pn) pf pd pe))), (aI k z1 4 (nF pb))] H ∧ va_S (fun q : Nat => s.heap.size ≤ q) s.heap H locs ∧ lv_has ls 4 [(3, .int (nI ii_1)), (2, .int lf_1), (0, .ref z0), (1, .int (nI cn))]) (fun n_1 x_1 H locs ls hI ih_1 => ?_) _ (0, pf) ⟨rfl, (by omega), hP, hS, (lv_sub hl [0, 1, 2, 3] rfl)⟩
  obtain ⟨ii_1, lf_1⟩ := x_1
  obtain ⟨hm_1, hv_1, hP, hS, hl⟩ := hI
  subst hm_1
  refine lv_iload_n hx hb dX1_placeOf_7 rfl (lv_at hl 0 rfl) ?_
  refine lv_iload_n hx hb dX1_placeOf_8 rfl (lv_at hl 3 rfl) ?_
  refine lv_icmp_ge (tgt := 25) hx hb dX1_placeOf_9 (by decide) (fun c_2 => ?_) (fun c_2 => ?_)
  · have c_2 := (nI_leI (a := cn) (b := ii_1) (by omega) (by omega)).mp c_2
    refine lv_aload_n hx hb dX1_placeOf_25 rfl (lv_at hl 2 rfl) ?_
    refine lv_aload_n hx hb dX1_placeOf_26 rfl (lv_at hl 2 rfl) ?_
    refine va_get (D := D) (ci := 1) (v := .ref z1) (C := RX1) (T := TX1) (N := 8) hx hb hts inX1 hown hK hP 0 rfl rfl 1 (by decide) (hts _ tw_236) (fun _ h9 => h9) rfl dX1_placeOf_27 ?_
    refine lv_iload_n hx hb dX1_placeOf_30 rfl (lv_at hl 3 rfl) ?_
    refine va_iald hx hb hK hP 1 1 rfl rfl (vp_in_nI (by omega) (by decide)) dX1_placeOf_31 ?_
    have hq_3 := hpb cn
    refine lv_ti (y := (nI (pb cn))) (by rw [nI_clamp (by omega)]; rfl) ?_
    refine lv_iload_n hx hb dX1_placeOf_32 rfl (lv_at hl 1 rfl) ?_
    refine ro_i (D := D) (va_runV (As := [.int (nI (pb cn)), .int lf_1]) (rest := []) ⟨hx, hb, hml, hown, hts⟩ ((x_placeFrom l D k st lo c0 z0 z1 z2 z3 pn pf pd pe (pb cn) lf_1 (by first | assumption | omega) (by first | assumption | omega)) H.size) (cwV 2 hts (gV tw_838 tw_840 tw_20 tw_84 tw_841) rfl rfl rfl (by decide +kernel) ⟨Nat.le_of_ble_eq_true rfl, Nat.le_of_ble_eq_true rfl⟩) (pV hS hAlo hlo hP hK hDL hZ [0] (by decide) rfl (ci := 1) (q := (RX1, TX1, 8)) (q0 := 0) rfl rfl) rfl rfl hl.1 rfl (lv_room (Nat.le_of_ble_eq_true rfl)) dX1_placeOf_33 ⟨Nat.le_of_ble_eq_true rfl, Nat.le_of_ble_eq_true rfl⟩) hS hA hP (fun r_4 H locs hw_4 hP hS => ?_)
    try dsimp only at hw_4
    obtain ⟨zp_5, hzp_5, rfl⟩ := hw_4
    exact W.iret (v := (nI zp_5)) hx hb hr (fun t ht hW => ⟨⟨(nI zp_5), (), rfl, ⟨_, by omega, rfl⟩, trivial⟩, hS.F ht⟩) hS.2.2 dX1_placeOf_36
  · have c_2 : ¬ (cn ≤ ii_1) := fun h => c_2 ((nI_leI (a := cn) (b := ii_1) (by omega) (by omega)).mpr h)
    refine lv_aload_n hx hb dX1_placeOf_12 rfl (lv_at hl 2 rfl) ?_
    refine lv_iload_n hx hb dX1_placeOf_13 rfl (lv_at hl 0 rfl) ?_
    refine lv_iload_n hx hb dX1_placeOf_14 rfl (lv_at hl 1 rfl) ?_
    refine ro_i (D := D) (va_runV (As := [.int (nI ii_1), .int lf_1]) (rest := []) ⟨hx, hb, hml, hown, hts⟩ ((x_leftBehind l D k st lo c0 z0 z1 z2 z3 pn pf pd pe pb ii_1 lf_1 (by first | assumption | omega) (by first | assumption | omega) hpb) H.size) (cwV 2 hts (gV tw_834 tw_836 tw_19 tw_84 tw_837) rfl rfl rfl (by decide +kernel) ⟨Nat.le_of_ble_eq_true rfl, Nat.le_of_ble_eq_true rfl⟩) (pV hS hAlo hlo hP hK hDL hZ [0, 1] (by decide) rfl (ci := 1) (q := (RX1, TX1, 8)) (q0 := 0) rfl rfl) rfl rfl hl.1 rfl (lv_room (Nat.le_of_ble_eq_true rfl)) dX1_placeOf_15 ⟨Nat.le_of_ble_eq_true rfl, Nat.le_of_ble_eq_true rfl⟩) hS hA hP (fun r_6 H locs hw_6 hP hS => ?_)
    try dsimp only at hw_6
    refine lv_istore_n (lv' := [(2, .int r_6), (3, .int (nI ii_1)), (0, .ref z0), (1, .int (nI cn))]) hx hb dX1_placeOf_18 rfl hl (by decide) rfl (fun ls hl => ?_)
    refine lv_iinc (v := (nI (ii_1 + 1))) (lv' := [(3, .int (nI (ii_1 + 1))), (2, .int r_6), (0, .ref z0), (1, .int (nI cn))]) hx hb dX1_placeOf_19 hl (k := 1) rfl (nI_add ii_1 1) (by decide) rfl (fun ls hl => ?_)
    refine lv_goto (tgt := 7) hx hb dX1_placeOf_22 (by decide) ?_
    exact ih_1 _ (ii_1 + 1, r_6) _ _ _ (by omega) ⟨rfl, (by omega), hP, hS, (lv_sub hl [0, 1, 2, 3] rfl)⟩

theorem dX1_bestBar_0 : decode cX1_bestBar 0 = .ok (.aload_n 0, 1) := by decide +kernel
theorem dX1_bestBar_1 : decode cX1_bestBar 1 = .ok (.getfield 21, 3) := by decide +kernel
theorem dX1_bestBar_4 : decode cX1_bestBar 4 = .ok (.istore_n 3, 1) := by decide +kernel
theorem dX1_bestBar_5 : decode cX1_bestBar 5 = .ok (.iload_n 3, 1) := by decide +kernel
theorem dX1_bestBar_6 : decode cX1_bestBar 6 = .ok (.istore 4, 2) := by decide +kernel
theorem dX1_bestBar_8 : decode cX1_bestBar 8 = .ok (.aload_n 0, 1) := by decide +kernel
theorem dX1_bestBar_9 : decode cX1_bestBar 9 = .ok (.iload_n 1, 1) := by decide +kernel
theorem dX1_bestBar_10 : decode cX1_bestBar 10 = .ok (.iload 4, 2) := by decide +kernel
theorem dX1_bestBar_12 : decode cX1_bestBar 12 = .ok (.invokevirtual 80, 3) := by decide +kernel
theorem dX1_bestBar_15 : decode cX1_bestBar 15 = .ok (.istore 5, 2) := by decide +kernel
theorem dX1_bestBar_17 : decode cX1_bestBar 17 = .ok (.aload_n 0, 1) := by decide +kernel
theorem dX1_bestBar_18 : decode cX1_bestBar 18 = .ok (.getfield 21, 3) := by decide +kernel
theorem dX1_bestBar_21 : decode cX1_bestBar 21 = .ok (.iconst 1, 1) := by decide +kernel
theorem dX1_bestBar_22 : decode cX1_bestBar 22 = .ok (.isub, 1) := by decide +kernel
theorem dX1_bestBar_23 : decode cX1_bestBar 23 = .ok (.istore 6, 2) := by decide +kernel
theorem dX1_bestBar_25 : decode cX1_bestBar 25 = .ok (.iload 6, 2) := by decide +kernel
theorem dX1_bestBar_27 : decode cX1_bestBar 27 = .ok (.ifCond .lt 45, 3) := by decide +kernel
theorem dX1_bestBar_30 : decode cX1_bestBar 30 = .ok (.iload_n 2, 1) := by decide +kernel
theorem dX1_bestBar_31 : decode cX1_bestBar 31 = .ok (.iload 6, 2) := by decide +kernel
theorem dX1_bestBar_33 : decode cX1_bestBar 33 = .ok (.ishr, 1) := by decide +kernel
theorem dX1_bestBar_34 : decode cX1_bestBar 34 = .ok (.iconst 1, 1) := by decide +kernel
theorem dX1_bestBar_35 : decode cX1_bestBar 35 = .ok (.iand, 1) := by decide +kernel
theorem dX1_bestBar_36 : decode cX1_bestBar 36 = .ok (.ifCond .eq 7, 3) := by decide +kernel
theorem dX1_bestBar_39 : decode cX1_bestBar 39 = .ok (.iload 6, 2) := by decide +kernel
theorem dX1_bestBar_41 : decode cX1_bestBar 41 = .ok (.istore 4, 2) := by decide +kernel
theorem dX1_bestBar_43 : decode cX1_bestBar 43 = .ok (.aload_n 0, 1) := by decide +kernel
theorem dX1_bestBar_44 : decode cX1_bestBar 44 = .ok (.iload_n 1, 1) := by decide +kernel
theorem dX1_bestBar_45 : decode cX1_bestBar 45 = .ok (.iload 4, 2) := by decide +kernel
theorem dX1_bestBar_47 : decode cX1_bestBar 47 = .ok (.invokevirtual 80, 3) := by decide +kernel
theorem dX1_bestBar_50 : decode cX1_bestBar 50 = .ok (.istore 7, 2) := by decide +kernel
theorem dX1_bestBar_52 : decode cX1_bestBar 52 = .ok (.iload 7, 2) := by decide +kernel
theorem dX1_bestBar_54 : decode cX1_bestBar 54 = .ok (.iload 5, 2) := by decide +kernel
theorem dX1_bestBar_56 : decode cX1_bestBar 56 = .ok (.if_icmp .gt 10, 3) := by decide +kernel
theorem dX1_bestBar_59 : decode cX1_bestBar 59 = .ok (.iload 7, 2) := by decide +kernel
theorem dX1_bestBar_61 : decode cX1_bestBar 61 = .ok (.istore 5, 2) := by decide +kernel
theorem dX1_bestBar_63 : decode cX1_bestBar 63 = .ok (.iload 6, 2) := by decide +kernel
theorem dX1_bestBar_65 : decode cX1_bestBar 65 = .ok (.istore_n 3, 1) := by decide +kernel
theorem dX1_bestBar_66 : decode cX1_bestBar 66 = .ok (.iinc 6 (-1), 3) := by decide +kernel
theorem dX1_bestBar_69 : decode cX1_bestBar 69 = .ok (.goto (-44), 3) := by decide +kernel
theorem dX1_bestBar_72 : decode cX1_bestBar 72 = .ok (.aload_n 0, 1) := by decide +kernel
theorem dX1_bestBar_73 : decode cX1_bestBar 73 = .ok (.getfield 9, 3) := by decide +kernel
theorem dX1_bestBar_76 : decode cX1_bestBar 76 = .ok (.iload_n 1, 1) := by decide +kernel
theorem dX1_bestBar_77 : decode cX1_bestBar 77 = .ok (.iaload, 1) := by decide +kernel
theorem dX1_bestBar_78 : decode cX1_bestBar 78 = .ok (.aload_n 0, 1) := by decide +kernel
theorem dX1_bestBar_79 : decode cX1_bestBar 79 = .ok (.getfield 21, 3) := by decide +kernel
theorem dX1_bestBar_82 : decode cX1_bestBar 82 = .ok (.if_icmp .gt 28, 3) := by decide +kernel
theorem dX1_bestBar_85 : decode cX1_bestBar 85 = .ok (.aload_n 0, 1) := by decide +kernel
theorem dX1_bestBar_86 : decode cX1_bestBar 86 = .ok (.iload_n 1, 1) := by decide +kernel
theorem dX1_bestBar_87 : decode cX1_bestBar 87 = .ok (.aload_n 0, 1) := by decide +kernel
theorem dX1_bestBar_88 : decode cX1_bestBar 88 = .ok (.aload_n 0, 1) := by decide +kernel
theorem dX1_bestBar_89 : decode cX1_bestBar 89 = .ok (.getfield 9, 3) := by decide +kernel
theorem dX1_bestBar_92 : decode cX1_bestBar 92 = .ok (.iload_n 1, 1) := by decide +kernel
theorem dX1_bestBar_93 : decode cX1_bestBar 93 = .ok (.iaload, 1) := by decide +kernel
theorem dX1_bestBar_94 : decode cX1_bestBar 94 = .ok (.iload_n 2, 1) := by decide +kernel
theorem dX1_bestBar_95 : decode cX1_bestBar 95 = .ok (.invokevirtual 74, 3) := by decide +kernel
theorem dX1_bestBar_98 : decode cX1_bestBar 98 = .ok (.invokevirtual 80, 3) := by decide +kernel
theorem dX1_bestBar_101 : decode cX1_bestBar 101 = .ok (.iload 5, 2) := by decide +kernel
theorem dX1_bestBar_103 : decode cX1_bestBar 103 = .ok (.if_icmp .ne 7, 3) := by decide +kernel
theorem dX1_bestBar_106 : decode cX1_bestBar 106 = .ok (.iconst 1, 1) := by decide +kernel
theorem dX1_bestBar_107 : decode cX1_bestBar 107 = .ok (.goto 4, 3) := by decide +kernel
theorem dX1_bestBar_110 : decode cX1_bestBar 110 = .ok (.iconst 0, 1) := by decide +kernel
theorem dX1_bestBar_111 : decode cX1_bestBar 111 = .ok (.istore 6, 2) := by decide +kernel
theorem dX1_bestBar_113 : decode cX1_bestBar 113 = .ok (.iload 6, 2) := by decide +kernel
theorem dX1_bestBar_115 : decode cX1_bestBar 115 = .ok (.ifCond .eq 12, 3) := by decide +kernel
theorem dX1_bestBar_118 : decode cX1_bestBar 118 = .ok (.aload_n 0, 1) := by decide +kernel
theorem dX1_bestBar_119 : decode cX1_bestBar 119 = .ok (.getfield 9, 3) := by decide +kernel
theorem dX1_bestBar_122 : decode cX1_bestBar 122 = .ok (.iload_n 1, 1) := by decide +kernel
theorem dX1_bestBar_123 : decode cX1_bestBar 123 = .ok (.iaload, 1) := by decide +kernel
theorem dX1_bestBar_124 : decode cX1_bestBar 124 = .ok (.goto 4, 3) := by decide +kernel
theorem dX1_bestBar_127 : decode cX1_bestBar 127 = .ok (.iload_n 3, 1) := by decide +kernel
theorem dX1_bestBar_128 : decode cX1_bestBar 128 = .ok (.ireturn, 1) := by decide +kernel
set_option maxHeartbeats 4000000 in
set_option maxRecDepth 100000 in
theorem x_bestBar (l : Launch) (D : va_G) (k : Nat → ClassId) (st : Nat → Nat) (lo : Nat) (c0 : Nat) (z0 : Nat) (z1 : Nat) (z2 : Nat) (z3 : Nat) (pn : Nat) (pf : Int32) (pd : Int32) (pe : Int32) (pb : Nat → Nat) (pco : Nat → Int32) (cn : Nat) (p1 : Int32) (hpn : pn ≤ 24) (hcn : cn < 4) (hpb : ∀ j, pb j ≤ 24) : CRi l D k st lo yX1_bestBar cX1_bestBar 8 (some .int) ({ frames := 2, cells := 0, slots := 0, locals := 45 }) [.ref z0, .int (nI cn), .int p1] [(z0, .inr (1, (fX1 c0 z1 z2 z3 (nI pn) pf pd pe))), (aI k z1 4 (nF pb)), (aI k z2 100 pco)] (fun r => ∃ z : Nat, z ≤ 24 ∧ r = nI z) := by
  intro sz
  refine Met.ofW (cc := cX1_bestBar) (maxL := 8) (ret := (some .int)) (by decide) rfl ?_
  intro p e s m args below meth c s₁ B hml hv
  obtain ⟨rfl, hsz, hlo, hP, hK, hDL, hZ⟩ := hv
  have hx := B.exec
  have hb := B.bytes
  have hr := B.returns
  have hts := WS_ts B.pre
  have hown : s.vm.findClass RX1 = some m.cls := findClass_of_methodNamed B.named
  have hlocks := B.notSynchronized
  subst hsz
  have hA : ∀ q : Nat, s.heap.size ≤ q → (fun q : Nat => s.heap.size ≤ q) q := fun _ h => h
  have hAlo : ∀ q : Nat, (fun q : Nat => s.heap.size ≤ q) q → lo ≤ q := fun q h => Nat.le_trans hlo h
  have hS : va_S (fun q : Nat => s.heap.size ≤ q) s.heap s.heap [] := va_S.rf
  have hl := lv_entry ([.ref z0, .int (nI cn), .int p1]) (n := 8) (Nat.le_of_ble_eq_true rfl)
  rw [lg_entry_eq]
  generalize (lg_sl ([.ref z0, .int (nI cn), .int p1]) ++ List.replicate (8 - (lg_sl ([.ref z0, .int (nI cn), .int p1])).length) Slot.unset).toArray = ls at hl ⊢
  have hl : lv_has ls 8 [(0, .ref z0), (1, .int (nI cn)), (2, .int p1)] := hl
  refine lv_aload_n hx hb dX1_bestBar_0 rfl (lv_at hl 0 rfl) ?_
  refine va_get (D := D) (ci := 1) (v := .int (nI pn)) (C := RX1) (T := TX1) (N := 8) hx hb hts inX1 hown hK hP 0 rfl rfl 4 (by decide) (hts _ tw_240) (fun _ h9 => h9) rfl dX1_bestBar_1 ?_
  refine lv_istore_n (lv' := [(3, .int (nI pn)), (0, .ref z0), (1, .int (nI cn)), (2, .int p1)]) hx hb dX1_bestBar_4 rfl hl (by decide) rfl (fun ls hl => ?_)
  refine lv_iload_n hx hb dX1_bestBar_5 rfl (lv_at hl 0 rfl) ?_
  refine lv_istore (lv' := [(4, .int (nI pn)), (3, .int (nI pn)), (0, .ref z0), (1, .int (nI cn)), (2, .int p1)]) hx hb dX1_bestBar_6 hl (by decide) rfl (fun ls hl => ?_)
  refine lv_aload_n hx hb dX1_bestBar_8 rfl (lv_at hl 2 rfl) ?_
  refine lv_iload_n hx hb dX1_bestBar_9 rfl (lv_at hl 3 rfl) ?_
  refine lv_iload hx hb dX1_bestBar_10 (lv_at hl 0 rfl) ?_
  refine ro_i (D := D) (va_runV (As := [.int (nI cn), .int (nI pn)]) (rest := []) ⟨hx, hb, hml, hown, hts⟩ ((x_paidAt l D k st lo c0 z0 z1 z2 z3 pn pf pd pe pco cn pn (by first | assumption | omega) (by first | assumption | omega) (by first | assumption | omega)) s.heap.size) (cwV 2 hts (gV tw_862 tw_864 tw_23 tw_84 tw_865) rfl rfl rfl (by decide +kernel) ⟨Nat.le_of_ble_eq_true rfl, Nat.le_of_ble_eq_true rfl⟩) (pV hS hAlo hlo hP hK hDL hZ [0, 2] (by decide) rfl (ci := 1) (q := (RX1, TX1, 8)) (q0 := 0) rfl rfl) rfl rfl hl.1 rfl (lv_room (Nat.le_of_ble_eq_true rfl)) dX1_bestBar_12 ⟨Nat.le_of_ble_eq_true rfl, Nat.le_of_ble_eq_true rfl⟩) hS hA hP (fun r_1 H locs hw_1 hP hS => ?_)
  try dsimp only at hw_1
  refine lv_istore (lv' := [(5, .int r_1), (4, .int (nI pn)), (3, .int (nI pn)), (0, .ref z0), (1, .int (nI cn)), (2, .int p1)]) hx hb dX1_bestBar_15 hl (by decide) rfl (fun ls hl => ?_)
  refine lv_aload_n hx hb dX1_bestBar_17 rfl (lv_at hl 3 rfl) ?_
  refine va_get (D := D) (ci := 1) (v := .int (nI pn)) (C := RX1) (T := TX1) (N := 8) hx hb hts inX1 hown hK hP 0 rfl rfl 4 (by decide) (hts _ tw_240) (fun _ h9 => h9) rfl dX1_bestBar_18 ?_
  refine lv_iconst (v := 1) hx hb dX1_bestBar_21 (by decide) ?_
  refine lv_isub hx hb dX1_bestBar_22 ?_
  refine lv_ti (y := (nI pn - 1)) rfl ?_
  refine lv_istore (lv' := [(6, .int (nI pn - 1)), (5, .int r_1), (4, .int (nI pn)), (3, .int (nI pn)), (0, .ref z0), (1, .int (nI cn)), (2, .int p1)]) hx hb dX1_bestBar_23 hl (by decide) rfl (fun ls hl => ?_)
  refine W_loop (σ := Nat × Nat × Nat × Int32) (fun (n_ : Nat) (x_ : Nat × Nat × Nat × Int32) (H : Heap) (locs : List Loc) (ls : Array Slot) => match x_ with | (q_2, be_2, pl2_2, le_2) => n_ = 2 * q_2 ∧ (q_2 ≤ pn ∧ be_2 ≤ 24 ∧ pl2_2 ≤ 24) ∧ va_P D classes [(z0, .inr (1, (fX1 c0 z1 z2 z3 (nI pn) pf pd pe))), (aI k z1 4 (nF pb)), (aI k z2 100 pco)] H ∧ va_S (fun q : Nat => s.heap.size ≤ q) s.heap H locs ∧ lv_has ls 8 [(6, .int (nI q_2 - 1)), (5, .int le_2), (4, .int (nI pl2_2)), (3, .int (nI be_2)), (0, .ref z0), (1, .int (nI cn)), (2, .int p1)]) (fun n_2 x_2 H locs ls hI ih_2 => ?_) _ (pn, pn, pn, r_1) ⟨rfl, ⟨by omega, by omega, by omega⟩, hP, hS, (lv_sub hl [0, 1, 2, 3, 4, 5, 6] rfl)⟩
  obtain ⟨q_2, be_2, pl2_2, le_2⟩ := x_2
  obtain ⟨hm_2, hv_2, hP, hS, hl⟩ := hI
  subst hm_2
  rcases q_2 with _ | q_2
  · rw [dn0] at hl
    refine lv_iload hx hb dX1_bestBar_25 (lv_at hl 0 rfl) ?_
    refine lv_if_lt (tgt := 72) hx hb dX1_bestBar_27 (by decide) (fun _ => ?_) (fun h => absurd (by decide) h)
    refine lv_aload_n hx hb dX1_bestBar_72 rfl (lv_at hl 4 rfl) ?_
    refine va_get (D := D) (ci := 1) (v := .ref z1) (C := RX1) (T := TX1) (N := 8) hx hb hts inX1 hown hK hP 0 rfl rfl 1 (by decide) (hts _ tw_236) (fun _ h9 => h9) rfl dX1_bestBar_73 ?_
    refine lv_iload_n hx hb dX1_bestBar_76 rfl (lv_at hl 5 rfl) ?_
    refine va_iald hx hb hK hP 1 1 rfl rfl (vp_in_nI (by omega) (by decide)) dX1_bestBar_77 ?_
    have hq_3 := hpb cn
    refine lv_ti (y := (nI (pb cn))) (by rw [nI_clamp (by omega)]; rfl) ?_
    refine lv_aload_n hx hb dX1_bestBar_78 rfl (lv_at hl 4 rfl) ?_
    refine va_get (D := D) (ci := 1) (v := .int (nI pn)) (C := RX1) (T := TX1) (N := 8) hx hb hts inX1 hown hK hP 0 rfl rfl 4 (by decide) (hts _ tw_240) (fun _ h9 => h9) rfl dX1_bestBar_79 ?_
    refine lv_icmp_gt (tgt := 110) hx hb dX1_bestBar_82 (by decide) (fun c_4 => ?_) (fun c_4 => ?_)
    · have c_4 := (nI_ltI (a := pn) (b := (pb cn)) (by omega) (by omega)).mp c_4
      refine lv_iconst (v := 0) hx hb dX1_bestBar_110 (by decide) ?_
      refine lv_istore (lv' := [(6, .int 0), (5, .int le_2), (4, .int (nI pl2_2)), (3, .int (nI be_2)), (0, .ref z0), (1, .int (nI cn)), (2, .int p1)]) hx hb dX1_bestBar_111 hl (by decide) rfl (fun ls hl => ?_)
      refine lv_iload hx hb dX1_bestBar_113 (lv_at hl 0 rfl) ?_
      refine lv_if_eq (tgt := 127) hx hb dX1_bestBar_115 (by decide) (fun _ => ?_) (fun h => absurd (by decide) h)
      refine lv_iload_n hx hb dX1_bestBar_127 rfl (lv_at hl 3 rfl) ?_
      exact W.iret (v := (nI be_2)) hx hb hr (fun t ht hW => ⟨⟨(nI be_2), (), rfl, ⟨_, by omega, rfl⟩, trivial⟩, hS.F ht⟩) hS.2.2 dX1_bestBar_128
    · have c_4 : ¬ (pn < (pb cn)) := fun h => c_4 ((nI_ltI (a := pn) (b := (pb cn)) (by omega) (by omega)).mpr h)
      refine lv_aload_n hx hb dX1_bestBar_85 rfl (lv_at hl 4 rfl) ?_
      refine lv_iload_n hx hb dX1_bestBar_86 rfl (lv_at hl 5 rfl) ?_
      refine lv_aload_n hx hb dX1_bestBar_87 rfl (lv_at hl 4 rfl) ?_
      refine lv_aload_n hx hb dX1_bestBar_88 rfl (lv_at hl 4 rfl) ?_
      refine va_get (D := D) (ci := 1) (v := .ref z1) (C := RX1) (T := TX1) (N := 8) hx hb hts inX1 hown hK hP 0 rfl rfl 1 (by decide) (hts _ tw_236) (fun _ h9 => h9) rfl dX1_bestBar_89 ?_
      refine lv_iload_n hx hb dX1_bestBar_92 rfl (lv_at hl 5 rfl) ?_
      refine va_iald hx hb hK hP 1 1 rfl rfl (vp_in_nI (by omega) (by decide)) dX1_bestBar_93 ?_
      have hq_5 := hpb cn
      refine lv_ti (y := (nI (pb cn))) (by rw [nI_clamp (by omega)]; rfl) ?_
      refine lv_iload_n hx hb dX1_bestBar_94 rfl (lv_at hl 6 rfl) ?_
      refine ro_i (D := D) (va_runV (As := [.int (nI (pb cn)), .int p1]) (rest := [.int (nI cn), .ref z0]) ⟨hx, hb, hml, hown, hts⟩ ((x_placeFrom l D k st lo c0 z0 z1 z2 z3 pn pf pd pe (pb cn) p1 (by first | assumption | omega) (by first | assumption | omega)) H.size) (cwV 2 hts (gV tw_838 tw_840 tw_20 tw_84 tw_841) rfl rfl rfl (by decide +kernel) ⟨Nat.le_of_ble_eq_true rfl, Nat.le_of_ble_eq_true rfl⟩) (pV hS hAlo hlo hP hK hDL hZ [0] (by decide) rfl (ci := 1) (q := (RX1, TX1, 8)) (q0 := 0) rfl rfl) rfl rfl hl.1 rfl (lv_room (Nat.le_of_ble_eq_true rfl)) dX1_bestBar_95 ⟨Nat.le_of_ble_eq_true rfl, Nat.le_of_ble_eq_true rfl⟩) hS hA hP (fun r_6 H locs hw_6 hP hS => ?_)
      try dsimp only at hw_6
      obtain ⟨zp_7, hzp_7, rfl⟩ := hw_6
      refine ro_i (D := D) (va_runV (As := [.int (nI cn), .int (nI zp_7)]) (rest := []) ⟨hx, hb, hml, hown, hts⟩ ((x_paidAt l D k st lo c0 z0 z1 z2 z3 pn pf pd pe pco cn zp_7 (by first | assumption | omega) (by first | assumption | omega) (by first | assumption | omega)) H.size) (cwV 2 hts (gV tw_862 tw_864 tw_23 tw_84 tw_865) rfl rfl rfl (by decide +kernel) ⟨Nat.le_of_ble_eq_true rfl, Nat.le_of_ble_eq_true rfl⟩) (pV hS hAlo hlo hP hK hDL hZ [0, 2] (by decide) rfl (ci := 1) (q := (RX1, TX1, 8)) (q0 := 0) rfl rfl) rfl rfl hl.1 rfl (lv_room (Nat.le_of_ble_eq_true rfl)) dX1_bestBar_98 ⟨Nat.le_of_ble_eq_true rfl, Nat.le_of_ble_eq_true rfl⟩) hS hA hP (fun r_8 H locs hw_8 hP hS => ?_)
      try dsimp only at hw_8
      refine lv_iload hx hb dX1_bestBar_101 (lv_at hl 1 rfl) ?_
      refine lv_icmp_ne (tgt := 110) hx hb dX1_bestBar_103 (by decide) (fun c_9 => ?_) (fun c_9 => ?_)
      · refine lv_iconst (v := 0) hx hb dX1_bestBar_110 (by decide) ?_
        refine lv_istore (lv' := [(6, .int 0), (5, .int le_2), (4, .int (nI pl2_2)), (3, .int (nI be_2)), (0, .ref z0), (1, .int (nI cn)), (2, .int p1)]) hx hb dX1_bestBar_111 hl (by decide) rfl (fun ls hl => ?_)
        refine lv_iload hx hb dX1_bestBar_113 (lv_at hl 0 rfl) ?_
        refine lv_if_eq (tgt := 127) hx hb dX1_bestBar_115 (by decide) (fun _ => ?_) (fun h => absurd (by decide) h)
        refine lv_iload_n hx hb dX1_bestBar_127 rfl (lv_at hl 3 rfl) ?_
        exact W.iret (v := (nI be_2)) hx hb hr (fun t ht hW => ⟨⟨(nI be_2), (), rfl, ⟨_, by omega, rfl⟩, trivial⟩, hS.F ht⟩) hS.2.2 dX1_bestBar_128
      · refine lv_iconst (v := 1) hx hb dX1_bestBar_106 (by decide) ?_
        refine lv_goto (tgt := 111) hx hb dX1_bestBar_107 (by decide) ?_
        refine lv_istore (lv' := [(6, .int 1), (5, .int le_2), (4, .int (nI pl2_2)), (3, .int (nI be_2)), (0, .ref z0), (1, .int (nI cn)), (2, .int p1)]) hx hb dX1_bestBar_111 hl (by decide) rfl (fun ls hl => ?_)
        refine lv_iload hx hb dX1_bestBar_113 (lv_at hl 0 rfl) ?_
        refine lv_if_eq (tgt := 127) hx hb dX1_bestBar_115 (by decide) (fun h => absurd h (by decide)) (fun _ => ?_)
        refine lv_aload_n hx hb dX1_bestBar_118 rfl (lv_at hl 4 rfl) ?_
        refine va_get (D := D) (ci := 1) (v := .ref z1) (C := RX1) (T := TX1) (N := 8) hx hb hts inX1 hown hK hP 0 rfl rfl 1 (by decide) (hts _ tw_236) (fun _ h9 => h9) rfl dX1_bestBar_119 ?_
        refine lv_iload_n hx hb dX1_bestBar_122 rfl (lv_at hl 5 rfl) ?_
        refine va_iald hx hb hK hP 1 1 rfl rfl (vp_in_nI (by omega) (by decide)) dX1_bestBar_123 ?_
        have hq_10 := hpb cn
        refine lv_ti (y := (nI (pb cn))) (by rw [nI_clamp (by omega)]; rfl) ?_
        refine lv_goto (tgt := 128) hx hb dX1_bestBar_124 (by decide) ?_
        exact W.iret (v := (nI (pb cn))) hx hb hr (fun t ht hW => ⟨⟨(nI (pb cn)), (), rfl, ⟨_, by omega, rfl⟩, trivial⟩, hS.F ht⟩) hS.2.2 dX1_bestBar_128
  · rw [nI_pred] at hl
    refine lv_iload hx hb dX1_bestBar_25 (lv_at hl 0 rfl) ?_
    refine lv_if_lt (tgt := 72) hx hb dX1_bestBar_27 (by decide) (fun h => absurd h (nI_pos0 (by omega))) (fun _ => ?_)
    refine lv_iload_n hx hb dX1_bestBar_30 rfl (lv_at hl 6 rfl) ?_
    refine lv_iload hx hb dX1_bestBar_31 (lv_at hl 0 rfl) ?_
    refine lv_ishr hx hb dX1_bestBar_33 ?_
    refine lv_topi (fun x_11 ex_11 => ?_)
    refine lv_iconst (v := 1) hx hb dX1_bestBar_34 (by decide) ?_
    refine lv_iand hx hb dX1_bestBar_35 ?_
    refine lv_topi (fun x_12 ex_12 => ?_)
    refine lv_if_eq (tgt := 43) hx hb dX1_bestBar_36 (by decide) (fun c_13 => ?_) (fun c_13 => ?_)
    · refine lv_aload_n hx hb dX1_bestBar_43 rfl (lv_at hl 4 rfl) ?_
      refine lv_iload_n hx hb dX1_bestBar_44 rfl (lv_at hl 5 rfl) ?_
      refine lv_iload hx hb dX1_bestBar_45 (lv_at hl 2 rfl) ?_
      refine ro_i (D := D) (va_runV (As := [.int (nI cn), .int (nI pl2_2)]) (rest := []) ⟨hx, hb, hml, hown, hts⟩ ((x_paidAt l D k st lo c0 z0 z1 z2 z3 pn pf pd pe pco cn pl2_2 (by first | assumption | omega) (by first | assumption | omega) (by first | assumption | omega)) H.size) (cwV 2 hts (gV tw_862 tw_864 tw_23 tw_84 tw_865) rfl rfl rfl (by decide +kernel) ⟨Nat.le_of_ble_eq_true rfl, Nat.le_of_ble_eq_true rfl⟩) (pV hS hAlo hlo hP hK hDL hZ [0, 2] (by decide) rfl (ci := 1) (q := (RX1, TX1, 8)) (q0 := 0) rfl rfl) rfl rfl hl.1 rfl (lv_room (Nat.le_of_ble_eq_true rfl)) dX1_bestBar_47 ⟨Nat.le_of_ble_eq_true rfl, Nat.le_of_ble_eq_true rfl⟩) hS hA hP (fun r_14 H locs hw_14 hP hS => ?_)
      try dsimp only at hw_14
      refine lv_istore (lv' := [(7, .int r_14), (6, .int (nI q_2)), (5, .int le_2), (4, .int (nI pl2_2)), (3, .int (nI be_2)), (0, .ref z0), (1, .int (nI cn)), (2, .int p1)]) hx hb dX1_bestBar_50 hl (by decide) rfl (fun ls hl => ?_)
      refine lv_iload hx hb dX1_bestBar_52 (lv_at hl 0 rfl) ?_
      refine lv_iload hx hb dX1_bestBar_54 (lv_at hl 2 rfl) ?_
      refine lv_icmp_gt (tgt := 66) hx hb dX1_bestBar_56 (by decide) (fun c_15 => ?_) (fun c_15 => ?_)
      · refine lv_iinc (v := (nI q_2 - 1)) (lv' := [(6, .int (nI q_2 - 1)), (7, .int r_14), (5, .int le_2), (4, .int (nI pl2_2)), (3, .int (nI be_2)), (0, .ref z0), (1, .int (nI cn)), (2, .int p1)]) hx hb dX1_bestBar_66 hl (k := 1) rfl (dn1 _) (by decide) rfl (fun ls hl => ?_)
        refine lv_goto (tgt := 25) hx hb dX1_bestBar_69 (by decide) ?_
        exact ih_2 _ (q_2, be_2, pl2_2, le_2) _ _ _ (by omega) ⟨rfl, ⟨by omega, by omega, by omega⟩, hP, hS, (lv_sub hl [0, 2, 3, 4, 5, 6, 7] rfl)⟩
      · refine lv_iload hx hb dX1_bestBar_59 (lv_at hl 0 rfl) ?_
        refine lv_istore (lv' := [(5, .int r_14), (7, .int r_14), (6, .int (nI q_2)), (4, .int (nI pl2_2)), (3, .int (nI be_2)), (0, .ref z0), (1, .int (nI cn)), (2, .int p1)]) hx hb dX1_bestBar_61 hl (by decide) rfl (fun ls hl => ?_)
        refine lv_iload hx hb dX1_bestBar_63 (lv_at hl 2 rfl) ?_
        refine lv_istore_n (lv' := [(3, .int (nI q_2)), (5, .int r_14), (7, .int r_14), (6, .int (nI q_2)), (4, .int (nI pl2_2)), (0, .ref z0), (1, .int (nI cn)), (2, .int p1)]) hx hb dX1_bestBar_65 rfl hl (by decide) rfl (fun ls hl => ?_)
        refine lv_iinc (v := (nI q_2 - 1)) (lv' := [(6, .int (nI q_2 - 1)), (3, .int (nI q_2)), (5, .int r_14), (7, .int r_14), (4, .int (nI pl2_2)), (0, .ref z0), (1, .int (nI cn)), (2, .int p1)]) hx hb dX1_bestBar_66 hl (k := 3) rfl (dn1 _) (by decide) rfl (fun ls hl => ?_)
        refine lv_goto (tgt := 25) hx hb dX1_bestBar_69 (by decide) ?_
        exact ih_2 _ (q_2, q_2, pl2_2, r_14) _ _ _ (by omega) ⟨rfl, ⟨by omega, by omega, by omega⟩, hP, hS, (lv_sub hl [0, 2, 4, 1, 5, 6, 7] rfl)⟩
    · refine lv_iload hx hb dX1_bestBar_39 (lv_at hl 0 rfl) ?_
      refine lv_istore (lv' := [(4, .int (nI q_2)), (6, .int (nI q_2)), (5, .int le_2), (3, .int (nI be_2)), (0, .ref z0), (1, .int (nI cn)), (2, .int p1)]) hx hb dX1_bestBar_41 hl (by decide) rfl (fun ls hl => ?_)
      refine lv_aload_n hx hb dX1_bestBar_43 rfl (lv_at hl 4 rfl) ?_
      refine lv_iload_n hx hb dX1_bestBar_44 rfl (lv_at hl 5 rfl) ?_
      refine lv_iload hx hb dX1_bestBar_45 (lv_at hl 0 rfl) ?_
      refine ro_i (D := D) (va_runV (As := [.int (nI cn), .int (nI q_2)]) (rest := []) ⟨hx, hb, hml, hown, hts⟩ ((x_paidAt l D k st lo c0 z0 z1 z2 z3 pn pf pd pe pco cn q_2 (by first | assumption | omega) (by first | assumption | omega) (by first | assumption | omega)) H.size) (cwV 2 hts (gV tw_862 tw_864 tw_23 tw_84 tw_865) rfl rfl rfl (by decide +kernel) ⟨Nat.le_of_ble_eq_true rfl, Nat.le_of_ble_eq_true rfl⟩) (pV hS hAlo hlo hP hK hDL hZ [0, 2] (by decide) rfl (ci := 1) (q := (RX1, TX1, 8)) (q0 := 0) rfl rfl) rfl rfl hl.1 rfl (lv_room (Nat.le_of_ble_eq_true rfl)) dX1_bestBar_47 ⟨Nat.le_of_ble_eq_true rfl, Nat.le_of_ble_eq_true rfl⟩) hS hA hP (fun r_16 H locs hw_16 hP hS => ?_)
      try dsimp only at hw_16
      refine lv_istore (lv' := [(7, .int r_16), (4, .int (nI q_2)), (6, .int (nI q_2)), (5, .int le_2), (3, .int (nI be_2)), (0, .ref z0), (1, .int (nI cn)), (2, .int p1)]) hx hb dX1_bestBar_50 hl (by decide) rfl (fun ls hl => ?_)
      refine lv_iload hx hb dX1_bestBar_52 (lv_at hl 0 rfl) ?_
      refine lv_iload hx hb dX1_bestBar_54 (lv_at hl 3 rfl) ?_
      refine lv_icmp_gt (tgt := 66) hx hb dX1_bestBar_56 (by decide) (fun c_17 => ?_) (fun c_17 => ?_)
      · refine lv_iinc (v := (nI q_2 - 1)) (lv' := [(6, .int (nI q_2 - 1)), (7, .int r_16), (4, .int (nI q_2)), (5, .int le_2), (3, .int (nI be_2)), (0, .ref z0), (1, .int (nI cn)), (2, .int p1)]) hx hb dX1_bestBar_66 hl (k := 2) rfl (dn1 _) (by decide) rfl (fun ls hl => ?_)
        refine lv_goto (tgt := 25) hx hb dX1_bestBar_69 (by decide) ?_
        exact ih_2 _ (q_2, be_2, q_2, le_2) _ _ _ (by omega) ⟨rfl, ⟨by omega, by omega, by omega⟩, hP, hS, (lv_sub hl [0, 3, 2, 4, 5, 6, 7] rfl)⟩
      · refine lv_iload hx hb dX1_bestBar_59 (lv_at hl 0 rfl) ?_
        refine lv_istore (lv' := [(5, .int r_16), (7, .int r_16), (4, .int (nI q_2)), (6, .int (nI q_2)), (3, .int (nI be_2)), (0, .ref z0), (1, .int (nI cn)), (2, .int p1)]) hx hb dX1_bestBar_61 hl (by decide) rfl (fun ls hl => ?_)
        refine lv_iload hx hb dX1_bestBar_63 (lv_at hl 3 rfl) ?_
        refine lv_istore_n (lv' := [(3, .int (nI q_2)), (5, .int r_16), (7, .int r_16), (4, .int (nI q_2)), (6, .int (nI q_2)), (0, .ref z0), (1, .int (nI cn)), (2, .int p1)]) hx hb dX1_bestBar_65 rfl hl (by decide) rfl (fun ls hl => ?_)
        refine lv_iinc (v := (nI q_2 - 1)) (lv' := [(6, .int (nI q_2 - 1)), (3, .int (nI q_2)), (5, .int r_16), (7, .int r_16), (4, .int (nI q_2)), (0, .ref z0), (1, .int (nI cn)), (2, .int p1)]) hx hb dX1_bestBar_66 hl (k := 4) rfl (dn1 _) (by decide) rfl (fun ls hl => ?_)
        refine lv_goto (tgt := 25) hx hb dX1_bestBar_69 (by decide) ?_
        exact ih_2 _ (q_2, q_2, q_2, r_16) _ _ _ (by omega) ⟨rfl, ⟨by omega, by omega, by omega⟩, hP, hS, (lv_sub hl [0, 2, 4, 1, 5, 6, 7] rfl)⟩

theorem dX1_isAtRest_0 : decode cX1_isAtRest 0 = .ok (.aload_n 0, 1) := by decide +kernel
theorem dX1_isAtRest_1 : decode cX1_isAtRest 1 = .ok (.getfield 25, 3) := by decide +kernel
theorem dX1_isAtRest_4 : decode cX1_isAtRest 4 = .ok (.istore_n 1, 1) := by decide +kernel
theorem dX1_isAtRest_5 : decode cX1_isAtRest 5 = .ok (.iconst 0, 1) := by decide +kernel
theorem dX1_isAtRest_6 : decode cX1_isAtRest 6 = .ok (.istore_n 2, 1) := by decide +kernel
theorem dX1_isAtRest_7 : decode cX1_isAtRest 7 = .ok (.iload_n 2, 1) := by decide +kernel
theorem dX1_isAtRest_8 : decode cX1_isAtRest 8 = .ok (.aload_n 0, 1) := by decide +kernel
theorem dX1_isAtRest_9 : decode cX1_isAtRest 9 = .ok (.getfield 34, 3) := by decide +kernel
theorem dX1_isAtRest_12 : decode cX1_isAtRest 12 = .ok (.getfield 53, 3) := by decide +kernel
theorem dX1_isAtRest_15 : decode cX1_isAtRest 15 = .ok (.if_icmp .ge 55, 3) := by decide +kernel
theorem dX1_isAtRest_18 : decode cX1_isAtRest 18 = .ok (.aload_n 0, 1) := by decide +kernel
theorem dX1_isAtRest_19 : decode cX1_isAtRest 19 = .ok (.aload_n 0, 1) := by decide +kernel
theorem dX1_isAtRest_20 : decode cX1_isAtRest 20 = .ok (.iload_n 2, 1) := by decide +kernel
theorem dX1_isAtRest_21 : decode cX1_isAtRest 21 = .ok (.iload_n 1, 1) := by decide +kernel
theorem dX1_isAtRest_22 : decode cX1_isAtRest 22 = .ok (.invokevirtual 83, 3) := by decide +kernel
theorem dX1_isAtRest_25 : decode cX1_isAtRest 25 = .ok (.iload_n 1, 1) := by decide +kernel
theorem dX1_isAtRest_26 : decode cX1_isAtRest 26 = .ok (.invokevirtual 74, 3) := by decide +kernel
theorem dX1_isAtRest_29 : decode cX1_isAtRest 29 = .ok (.istore_n 3, 1) := by decide +kernel
theorem dX1_isAtRest_30 : decode cX1_isAtRest 30 = .ok (.aload_n 0, 1) := by decide +kernel
theorem dX1_isAtRest_31 : decode cX1_isAtRest 31 = .ok (.iload_n 2, 1) := by decide +kernel
theorem dX1_isAtRest_32 : decode cX1_isAtRest 32 = .ok (.iload_n 3, 1) := by decide +kernel
theorem dX1_isAtRest_33 : decode cX1_isAtRest 33 = .ok (.invokevirtual 80, 3) := by decide +kernel
theorem dX1_isAtRest_36 : decode cX1_isAtRest 36 = .ok (.aload_n 0, 1) := by decide +kernel
theorem dX1_isAtRest_37 : decode cX1_isAtRest 37 = .ok (.iload_n 2, 1) := by decide +kernel
theorem dX1_isAtRest_38 : decode cX1_isAtRest 38 = .ok (.aload_n 0, 1) := by decide +kernel
theorem dX1_isAtRest_39 : decode cX1_isAtRest 39 = .ok (.aload_n 0, 1) := by decide +kernel
theorem dX1_isAtRest_40 : decode cX1_isAtRest 40 = .ok (.getfield 9, 3) := by decide +kernel
theorem dX1_isAtRest_43 : decode cX1_isAtRest 43 = .ok (.iload_n 2, 1) := by decide +kernel
theorem dX1_isAtRest_44 : decode cX1_isAtRest 44 = .ok (.iaload, 1) := by decide +kernel
theorem dX1_isAtRest_45 : decode cX1_isAtRest 45 = .ok (.iload_n 1, 1) := by decide +kernel
theorem dX1_isAtRest_46 : decode cX1_isAtRest 46 = .ok (.invokevirtual 74, 3) := by decide +kernel
theorem dX1_isAtRest_49 : decode cX1_isAtRest 49 = .ok (.invokevirtual 80, 3) := by decide +kernel
theorem dX1_isAtRest_52 : decode cX1_isAtRest 52 = .ok (.if_icmp .ge 5, 3) := by decide +kernel
theorem dX1_isAtRest_55 : decode cX1_isAtRest 55 = .ok (.iconst 0, 1) := by decide +kernel
theorem dX1_isAtRest_56 : decode cX1_isAtRest 56 = .ok (.ireturn, 1) := by decide +kernel
theorem dX1_isAtRest_57 : decode cX1_isAtRest 57 = .ok (.aload_n 0, 1) := by decide +kernel
theorem dX1_isAtRest_58 : decode cX1_isAtRest 58 = .ok (.iload_n 2, 1) := by decide +kernel
theorem dX1_isAtRest_59 : decode cX1_isAtRest 59 = .ok (.iload_n 1, 1) := by decide +kernel
theorem dX1_isAtRest_60 : decode cX1_isAtRest 60 = .ok (.invokevirtual 77, 3) := by decide +kernel
theorem dX1_isAtRest_63 : decode cX1_isAtRest 63 = .ok (.istore_n 1, 1) := by decide +kernel
theorem dX1_isAtRest_64 : decode cX1_isAtRest 64 = .ok (.iinc 2 1, 3) := by decide +kernel
theorem dX1_isAtRest_67 : decode cX1_isAtRest 67 = .ok (.goto (-60), 3) := by decide +kernel
theorem dX1_isAtRest_70 : decode cX1_isAtRest 70 = .ok (.iconst 1, 1) := by decide +kernel
theorem dX1_isAtRest_71 : decode cX1_isAtRest 71 = .ok (.ireturn, 1) := by decide +kernel
set_option maxHeartbeats 4000000 in
set_option maxRecDepth 100000 in
theorem x_isAtRest (l : Launch) (D : va_G) (k : Nat → ClassId) (st : Nat → Nat) (lo : Nat) (c0 : Nat) (z0 : Nat) (z1 : Nat) (z2 : Nat) (z3 : Nat) (pn : Nat) (pf : Int32) (pd : Int32) (pe : Int32) (pb : Nat → Nat) (pco : Nat → Int32) (c1 : Nat) (c2 : Nat) (cc : Nat) (rz : Nat) (ro : Int32) (sd : Int32) (hpn : pn ≤ 24) (hcc : cc ≤ 4) (hpb : ∀ j, pb j ≤ 24) : CRi l D k st lo yX1_isAtRest cX1_isAtRest 4 (some .boolean) ({ frames := 3, cells := 0, slots := 0, locals := 72 }) [.ref z0] [(z0, .inr (1, (fX1 c0 z1 z2 z3 (nI pn) pf pd pe))), (aI k z1 4 (nF pb)), (aI k z2 100 pco), (c0, .inr (4, (fX4 c1 c2 (nI cc) (nI rz) ro sd)))] (fun r => r = 1 ∨ r = 0) := by
  intro sz
  refine Met.ofW (cc := cX1_isAtRest) (maxL := 4) (ret := (some .boolean)) (by decide) rfl ?_
  intro p e s m args below meth c s₁ B hml hv
  obtain ⟨rfl, hsz, hlo, hP, hK, hDL, hZ⟩ := hv
  have hx := B.exec
  have hb := B.bytes
  have hr := B.returns
  have hts := WS_ts B.pre
  have hown : s.vm.findClass RX1 = some m.cls := findClass_of_methodNamed B.named
  have hlocks := B.notSynchronized
  subst hsz
  have hA : ∀ q : Nat, s.heap.size ≤ q → (fun q : Nat => s.heap.size ≤ q) q := fun _ h => h
  have hAlo : ∀ q : Nat, (fun q : Nat => s.heap.size ≤ q) q → lo ≤ q := fun q h => Nat.le_trans hlo h
  have hS : va_S (fun q : Nat => s.heap.size ≤ q) s.heap s.heap [] := va_S.rf
  have hl := lv_entry ([.ref z0]) (n := 4) (Nat.le_of_ble_eq_true rfl)
  rw [lg_entry_eq]
  generalize (lg_sl ([.ref z0]) ++ List.replicate (4 - (lg_sl ([.ref z0])).length) Slot.unset).toArray = ls at hl ⊢
  have hl : lv_has ls 4 [(0, .ref z0)] := hl
  refine lv_aload_n hx hb dX1_isAtRest_0 rfl (lv_at hl 0 rfl) ?_
  refine va_get (D := D) (ci := 1) (v := .int pf) (C := RX1) (T := TX1) (N := 8) hx hb hts inX1 hown hK hP 0 rfl rfl 5 (by decide) (hts _ tw_241) (fun _ h9 => h9) rfl dX1_isAtRest_1 ?_
  refine lv_istore_n (lv' := [(1, .int pf), (0, .ref z0)]) hx hb dX1_isAtRest_4 rfl hl (by decide) rfl (fun ls hl => ?_)
  refine lv_iconst (v := 0) hx hb dX1_isAtRest_5 (by decide) ?_
  refine lv_istore_n (lv' := [(2, .int 0), (1, .int pf), (0, .ref z0)]) hx hb dX1_isAtRest_6 rfl hl (by decide) rfl (fun ls hl => ?_)
  refine W_loop (σ := Nat × Int32) (fun (n_ : Nat) (x_ : Nat × Int32) (H : Heap) (locs : List Loc) (ls : Array Slot) => match x_ with | (cn2_1, lf_1) => n_ = 5 - cn2_1 ∧ (cn2_1 ≤ 4) ∧ va_P D classes [(z0, .inr (1, (fX1 c0 z1 z2 z3 (nI pn) pf pd pe))), (aI k z1 4 (nF pb)), (aI k z2 100 pco), (c0, .inr (4, (fX4 c1 c2 (nI cc) (nI rz) ro sd)))] H ∧ va_S (fun q : Nat => s.heap.size ≤ q) s.heap H locs ∧ lv_has ls 4 [(2, .int (nI cn2_1)), (1, .int lf_1), (0, .ref z0)]) (fun n_1 x_1 H locs ls hI ih_1 => ?_) _ (0, pf) ⟨rfl, (by omega), hP, hS, (lv_sub hl [0, 1, 2] rfl)⟩
  obtain ⟨cn2_1, lf_1⟩ := x_1
  obtain ⟨hm_1, hv_1, hP, hS, hl⟩ := hI
  subst hm_1
  refine lv_iload_n hx hb dX1_isAtRest_7 rfl (lv_at hl 0 rfl) ?_
  refine lv_aload_n hx hb dX1_isAtRest_8 rfl (lv_at hl 2 rfl) ?_
  refine va_get (D := D) (ci := 1) (v := .ref c0) (C := RX1) (T := TX1) (N := 8) hx hb hts inX1 hown hK hP 0 rfl rfl 0 (by decide) (hts _ tw_235) (fun _ h9 => h9) rfl dX1_isAtRest_9 ?_
  refine va_get (D := D) (ci := 4) (v := .int (nI cc)) (C := RX4) (T := TX4) (N := 6) hx hb hts inX4 hown hK hP 3 rfl rfl 2 (by decide) (hts _ tw_179) (fun _ h9 => h9) rfl dX1_isAtRest_12 ?_
  refine lv_icmp_ge (tgt := 70) hx hb dX1_isAtRest_15 (by decide) (fun c_2 => ?_) (fun c_2 => ?_)
  · have c_2 := (nI_leI (a := cc) (b := cn2_1) (by omega) (by omega)).mp c_2
    refine lv_iconst (v := 1) hx hb dX1_isAtRest_70 (by decide) ?_
    exact W.zret (v := 1) (ty := .boolean) hx hb hr rfl (fun t ht hW => ⟨⟨1, (), rfl, .inl rfl, trivial⟩, hS.F ht⟩) hS.2.2 dX1_isAtRest_71
  · have c_2 : ¬ (cc ≤ cn2_1) := fun h => c_2 ((nI_leI (a := cc) (b := cn2_1) (by omega) (by omega)).mpr h)
    refine lv_aload_n hx hb dX1_isAtRest_18 rfl (lv_at hl 2 rfl) ?_
    refine lv_aload_n hx hb dX1_isAtRest_19 rfl (lv_at hl 2 rfl) ?_
    refine lv_iload_n hx hb dX1_isAtRest_20 rfl (lv_at hl 0 rfl) ?_
    refine lv_iload_n hx hb dX1_isAtRest_21 rfl (lv_at hl 1 rfl) ?_
    refine ro_i (D := D) (va_runV (As := [.int (nI cn2_1), .int lf_1]) (rest := [.ref z0]) ⟨hx, hb, hml, hown, hts⟩ ((x_bestBar l D k st lo c0 z0 z1 z2 z3 pn pf pd pe pb pco cn2_1 lf_1 (by first | assumption | omega) (by first | assumption | omega) hpb) H.size) (cwV 2 hts (gV tw_858 tw_860 tw_22 tw_84 tw_861) rfl rfl rfl (by decide +kernel) ⟨Nat.le_of_ble_eq_true rfl, Nat.le_of_ble_eq_true rfl⟩) (pV hS hAlo hlo hP hK hDL hZ [0, 1, 2] (by decide) rfl (ci := 1) (q := (RX1, TX1, 8)) (q0 := 0) rfl rfl) rfl rfl hl.1 rfl (lv_room (Nat.le_of_ble_eq_true rfl)) dX1_isAtRest_22 ⟨Nat.le_of_ble_eq_true rfl, Nat.le_of_ble_eq_true rfl⟩) hS hA hP (fun r_3 H locs hw_3 hP hS => ?_)
    try dsimp only at hw_3
    obtain ⟨zp_4, hzp_4, rfl⟩ := hw_3
    refine lv_iload_n hx hb dX1_isAtRest_25 rfl (lv_at hl 1 rfl) ?_
    refine ro_i (D := D) (va_runV (As := [.int (nI zp_4), .int lf_1]) (rest := []) ⟨hx, hb, hml, hown, hts⟩ ((x_placeFrom l D k st lo c0 z0 z1 z2 z3 pn pf pd pe zp_4 lf_1 (by first | assumption | omega) (by first | assumption | omega)) H.size) (cwV 2 hts (gV tw_838 tw_840 tw_20 tw_84 tw_841) rfl rfl rfl (by decide +kernel) ⟨Nat.le_of_ble_eq_true rfl, Nat.le_of_ble_eq_true rfl⟩) (pV hS hAlo hlo hP hK hDL hZ [0] (by decide) rfl (ci := 1) (q := (RX1, TX1, 8)) (q0 := 0) rfl rfl) rfl rfl hl.1 rfl (lv_room (Nat.le_of_ble_eq_true rfl)) dX1_isAtRest_26 ⟨Nat.le_of_ble_eq_true rfl, Nat.le_of_ble_eq_true rfl⟩) hS hA hP (fun r_5 H locs hw_5 hP hS => ?_)
    try dsimp only at hw_5
    obtain ⟨zp_6, hzp_6, rfl⟩ := hw_5
    refine lv_istore_n (lv' := [(3, .int (nI zp_6)), (2, .int (nI cn2_1)), (1, .int lf_1), (0, .ref z0)]) hx hb dX1_isAtRest_29 rfl hl (by decide) rfl (fun ls hl => ?_)
    refine lv_aload_n hx hb dX1_isAtRest_30 rfl (lv_at hl 3 rfl) ?_
    refine lv_iload_n hx hb dX1_isAtRest_31 rfl (lv_at hl 1 rfl) ?_
    refine lv_iload_n hx hb dX1_isAtRest_32 rfl (lv_at hl 0 rfl) ?_
    refine ro_i (D := D) (va_runV (As := [.int (nI cn2_1), .int (nI zp_6)]) (rest := []) ⟨hx, hb, hml, hown, hts⟩ ((x_paidAt l D k st lo c0 z0 z1 z2 z3 pn pf pd pe pco cn2_1 zp_6 (by first | assumption | omega) (by first | assumption | omega) (by first | assumption | omega)) H.size) (cwV 2 hts (gV tw_862 tw_864 tw_23 tw_84 tw_865) rfl rfl rfl (by decide +kernel) ⟨Nat.le_of_ble_eq_true rfl, Nat.le_of_ble_eq_true rfl⟩) (pV hS hAlo hlo hP hK hDL hZ [0, 2] (by decide) rfl (ci := 1) (q := (RX1, TX1, 8)) (q0 := 0) rfl rfl) rfl rfl hl.1 rfl (lv_room (Nat.le_of_ble_eq_true rfl)) dX1_isAtRest_33 ⟨Nat.le_of_ble_eq_true rfl, Nat.le_of_ble_eq_true rfl⟩) hS hA hP (fun r_7 H locs hw_7 hP hS => ?_)
    try dsimp only at hw_7
    refine lv_aload_n hx hb dX1_isAtRest_36 rfl (lv_at hl 3 rfl) ?_
    refine lv_iload_n hx hb dX1_isAtRest_37 rfl (lv_at hl 1 rfl) ?_
    refine lv_aload_n hx hb dX1_isAtRest_38 rfl (lv_at hl 3 rfl) ?_
    refine lv_aload_n hx hb dX1_isAtRest_39 rfl (lv_at hl 3 rfl) ?_
    refine va_get (D := D) (ci := 1) (v := .ref z1) (C := RX1) (T := TX1) (N := 8) hx hb hts inX1 hown hK hP 0 rfl rfl 1 (by decide) (hts _ tw_236) (fun _ h9 => h9) rfl dX1_isAtRest_40 ?_
    refine lv_iload_n hx hb dX1_isAtRest_43 rfl (lv_at hl 1 rfl) ?_
    refine va_iald hx hb hK hP 1 1 rfl rfl (vp_in_nI (by omega) (by decide)) dX1_isAtRest_44 ?_
    have hq_8 := hpb cn2_1
    refine lv_ti (y := (nI (pb cn2_1))) (by rw [nI_clamp (by omega)]; rfl) ?_
    refine lv_iload_n hx hb dX1_isAtRest_45 rfl (lv_at hl 2 rfl) ?_
    refine ro_i (D := D) (va_runV (As := [.int (nI (pb cn2_1)), .int lf_1]) (rest := [.int (nI cn2_1), .ref z0, .int r_7]) ⟨hx, hb, hml, hown, hts⟩ ((x_placeFrom l D k st lo c0 z0 z1 z2 z3 pn pf pd pe (pb cn2_1) lf_1 (by first | assumption | omega) (by first | assumption | omega)) H.size) (cwV 2 hts (gV tw_838 tw_840 tw_20 tw_84 tw_841) rfl rfl rfl (by decide +kernel) ⟨Nat.le_of_ble_eq_true rfl, Nat.le_of_ble_eq_true rfl⟩) (pV hS hAlo hlo hP hK hDL hZ [0] (by decide) rfl (ci := 1) (q := (RX1, TX1, 8)) (q0 := 0) rfl rfl) rfl rfl hl.1 rfl (lv_room (Nat.le_of_ble_eq_true rfl)) dX1_isAtRest_46 ⟨Nat.le_of_ble_eq_true rfl, Nat.le_of_ble_eq_true rfl⟩) hS hA hP (fun r_9 H locs hw_9 hP hS => ?_)
    try dsimp only at hw_9
    obtain ⟨zp_10, hzp_10, rfl⟩ := hw_9
    refine ro_i (D := D) (va_runV (As := [.int (nI cn2_1), .int (nI zp_10)]) (rest := [.int r_7]) ⟨hx, hb, hml, hown, hts⟩ ((x_paidAt l D k st lo c0 z0 z1 z2 z3 pn pf pd pe pco cn2_1 zp_10 (by first | assumption | omega) (by first | assumption | omega) (by first | assumption | omega)) H.size) (cwV 2 hts (gV tw_862 tw_864 tw_23 tw_84 tw_865) rfl rfl rfl (by decide +kernel) ⟨Nat.le_of_ble_eq_true rfl, Nat.le_of_ble_eq_true rfl⟩) (pV hS hAlo hlo hP hK hDL hZ [0, 2] (by decide) rfl (ci := 1) (q := (RX1, TX1, 8)) (q0 := 0) rfl rfl) rfl rfl hl.1 rfl (lv_room (Nat.le_of_ble_eq_true rfl)) dX1_isAtRest_49 ⟨Nat.le_of_ble_eq_true rfl, Nat.le_of_ble_eq_true rfl⟩) hS hA hP (fun r_11 H locs hw_11 hP hS => ?_)
    try dsimp only at hw_11
    refine lv_icmp_ge (tgt := 57) hx hb dX1_isAtRest_52 (by decide) (fun c_12 => ?_) (fun c_12 => ?_)
    · refine lv_aload_n hx hb dX1_isAtRest_57 rfl (lv_at hl 3 rfl) ?_
      refine lv_iload_n hx hb dX1_isAtRest_58 rfl (lv_at hl 1 rfl) ?_
      refine lv_iload_n hx hb dX1_isAtRest_59 rfl (lv_at hl 2 rfl) ?_
      refine ro_i (D := D) (va_runV (As := [.int (nI cn2_1), .int lf_1]) (rest := []) ⟨hx, hb, hml, hown, hts⟩ ((x_leftBehind l D k st lo c0 z0 z1 z2 z3 pn pf pd pe pb cn2_1 lf_1 (by first | assumption | omega) (by first | assumption | omega) hpb) H.size) (cwV 2 hts (gV tw_834 tw_836 tw_19 tw_84 tw_837) rfl rfl rfl (by decide +kernel) ⟨Nat.le_of_ble_eq_true rfl, Nat.le_of_ble_eq_true rfl⟩) (pV hS hAlo hlo hP hK hDL hZ [0, 1] (by decide) rfl (ci := 1) (q := (RX1, TX1, 8)) (q0 := 0) rfl rfl) rfl rfl hl.1 rfl (lv_room (Nat.le_of_ble_eq_true rfl)) dX1_isAtRest_60 ⟨Nat.le_of_ble_eq_true rfl, Nat.le_of_ble_eq_true rfl⟩) hS hA hP (fun r_13 H locs hw_13 hP hS => ?_)
      try dsimp only at hw_13
      refine lv_istore_n (lv' := [(1, .int r_13), (3, .int (nI zp_6)), (2, .int (nI cn2_1)), (0, .ref z0)]) hx hb dX1_isAtRest_63 rfl hl (by decide) rfl (fun ls hl => ?_)
      refine lv_iinc (v := (nI (cn2_1 + 1))) (lv' := [(2, .int (nI (cn2_1 + 1))), (1, .int r_13), (3, .int (nI zp_6)), (0, .ref z0)]) hx hb dX1_isAtRest_64 hl (k := 2) rfl (nI_add cn2_1 1) (by decide) rfl (fun ls hl => ?_)
      refine lv_goto (tgt := 7) hx hb dX1_isAtRest_67 (by decide) ?_
      exact ih_1 _ (cn2_1 + 1, r_13) _ _ _ (by omega) ⟨rfl, (by omega), hP, hS, (lv_sub hl [0, 1, 3] rfl)⟩
    · refine lv_iconst (v := 0) hx hb dX1_isAtRest_55 (by decide) ?_
      exact W.zret (v := 0) (ty := .boolean) hx hb hr rfl (fun t ht hW => ⟨⟨0, (), rfl, .inr rfl, trivial⟩, hS.F ht⟩) hS.2.2 dX1_isAtRest_56

theorem dX1_changeInTurn_0 : decode cX1_changeInTurn 0 = .ok (.iconst 0, 1) := by decide +kernel
theorem dX1_changeInTurn_1 : decode cX1_changeInTurn 1 = .ok (.istore_n 1, 1) := by decide +kernel
theorem dX1_changeInTurn_2 : decode cX1_changeInTurn 2 = .ok (.aload_n 0, 1) := by decide +kernel
theorem dX1_changeInTurn_3 : decode cX1_changeInTurn 3 = .ok (.getfield 25, 3) := by decide +kernel
theorem dX1_changeInTurn_6 : decode cX1_changeInTurn 6 = .ok (.istore_n 2, 1) := by decide +kernel
theorem dX1_changeInTurn_7 : decode cX1_changeInTurn 7 = .ok (.iconst 0, 1) := by decide +kernel
theorem dX1_changeInTurn_8 : decode cX1_changeInTurn 8 = .ok (.istore_n 3, 1) := by decide +kernel
theorem dX1_changeInTurn_9 : decode cX1_changeInTurn 9 = .ok (.iload_n 3, 1) := by decide +kernel
theorem dX1_changeInTurn_10 : decode cX1_changeInTurn 10 = .ok (.aload_n 0, 1) := by decide +kernel
theorem dX1_changeInTurn_11 : decode cX1_changeInTurn 11 = .ok (.getfield 34, 3) := by decide +kernel
theorem dX1_changeInTurn_14 : decode cX1_changeInTurn 14 = .ok (.getfield 53, 3) := by decide +kernel
theorem dX1_changeInTurn_17 : decode cX1_changeInTurn 17 = .ok (.if_icmp .ge 45, 3) := by decide +kernel
theorem dX1_changeInTurn_20 : decode cX1_changeInTurn 20 = .ok (.aload_n 0, 1) := by decide +kernel
theorem dX1_changeInTurn_21 : decode cX1_changeInTurn 21 = .ok (.iload_n 3, 1) := by decide +kernel
theorem dX1_changeInTurn_22 : decode cX1_changeInTurn 22 = .ok (.iload_n 2, 1) := by decide +kernel
theorem dX1_changeInTurn_23 : decode cX1_changeInTurn 23 = .ok (.invokevirtual 83, 3) := by decide +kernel
theorem dX1_changeInTurn_26 : decode cX1_changeInTurn 26 = .ok (.istore 4, 2) := by decide +kernel
theorem dX1_changeInTurn_28 : decode cX1_changeInTurn 28 = .ok (.iload 4, 2) := by decide +kernel
theorem dX1_changeInTurn_30 : decode cX1_changeInTurn 30 = .ok (.aload_n 0, 1) := by decide +kernel
theorem dX1_changeInTurn_31 : decode cX1_changeInTurn 31 = .ok (.getfield 9, 3) := by decide +kernel
theorem dX1_changeInTurn_34 : decode cX1_changeInTurn 34 = .ok (.iload_n 3, 1) := by decide +kernel
theorem dX1_changeInTurn_35 : decode cX1_changeInTurn 35 = .ok (.iaload, 1) := by decide +kernel
theorem dX1_changeInTurn_36 : decode cX1_changeInTurn 36 = .ok (.if_icmp .eq 13, 3) := by decide +kernel
theorem dX1_changeInTurn_39 : decode cX1_changeInTurn 39 = .ok (.aload_n 0, 1) := by decide +kernel
theorem dX1_changeInTurn_40 : decode cX1_changeInTurn 40 = .ok (.getfield 9, 3) := by decide +kernel
theorem dX1_changeInTurn_43 : decode cX1_changeInTurn 43 = .ok (.iload_n 3, 1) := by decide +kernel
theorem dX1_changeInTurn_44 : decode cX1_changeInTurn 44 = .ok (.iload 4, 2) := by decide +kernel
theorem dX1_changeInTurn_46 : decode cX1_changeInTurn 46 = .ok (.iastore, 1) := by decide +kernel
theorem dX1_changeInTurn_47 : decode cX1_changeInTurn 47 = .ok (.iconst 1, 1) := by decide +kernel
theorem dX1_changeInTurn_48 : decode cX1_changeInTurn 48 = .ok (.istore_n 1, 1) := by decide +kernel
theorem dX1_changeInTurn_49 : decode cX1_changeInTurn 49 = .ok (.aload_n 0, 1) := by decide +kernel
theorem dX1_changeInTurn_50 : decode cX1_changeInTurn 50 = .ok (.iload_n 3, 1) := by decide +kernel
theorem dX1_changeInTurn_51 : decode cX1_changeInTurn 51 = .ok (.iload_n 2, 1) := by decide +kernel
theorem dX1_changeInTurn_52 : decode cX1_changeInTurn 52 = .ok (.invokevirtual 77, 3) := by decide +kernel
theorem dX1_changeInTurn_55 : decode cX1_changeInTurn 55 = .ok (.istore_n 2, 1) := by decide +kernel
theorem dX1_changeInTurn_56 : decode cX1_changeInTurn 56 = .ok (.iinc 3 1, 3) := by decide +kernel
theorem dX1_changeInTurn_59 : decode cX1_changeInTurn 59 = .ok (.goto (-50), 3) := by decide +kernel
theorem dX1_changeInTurn_62 : decode cX1_changeInTurn 62 = .ok (.iload_n 1, 1) := by decide +kernel
theorem dX1_changeInTurn_63 : decode cX1_changeInTurn 63 = .ok (.ireturn, 1) := by decide +kernel
set_option maxHeartbeats 4000000 in
set_option maxRecDepth 100000 in
theorem x_changeInTurn (l : Launch) (D : va_G) (k : Nat → ClassId) (st : Nat → Nat) (lo : Nat) (c0 : Nat) (z0 : Nat) (z1 : Nat) (z2 : Nat) (z3 : Nat) (pn : Nat) (pf : Int32) (pd : Int32) (pe : Int32) (pb : Nat → Nat) (pco : Nat → Int32) (c1 : Nat) (c2 : Nat) (cc : Nat) (rz : Nat) (ro : Int32) (sd : Int32) (hpn : pn ≤ 24) (hcc : cc ≤ 4) (hpb : ∀ j, pb j ≤ 24) : CWi l D k st lo yX1_changeInTurn cX1_changeInTurn 5 (some .boolean) ({ frames := 3, cells := 0, slots := 0, locals := 72 }) 0 0 [.ref z0] [(z0, .inr (1, (fX1 c0 z1 z2 z3 (nI pn) pf pd pe))), (aI k z1 4 (nF pb)), (aI k z2 100 pco), (c0, .inr (4, (fX4 c1 c2 (nI cc) (nI rz) ro sd)))] (fun (r : Int32) (pb_ : (Nat → Nat)) => (r = 1 ∨ r = 0) ∧ (∀ j, pb_ j ≤ 24)) (fun (pb_ : (Nat → Nat)) => [(z0, .inr (1, (fX1 c0 z1 z2 z3 (nI pn) pf pd pe))), (aI k z1 4 (nF pb_)), (aI k z2 100 pco), (c0, .inr (4, (fX4 c1 c2 (nI cc) (nI rz) ro sd)))]) := by
  intro sz
  refine Met.ofW (cc := cX1_changeInTurn) (maxL := 5) (ret := (some .boolean)) (by decide) rfl ?_
  intro p e s m args below meth c s₁ B hml hv
  obtain ⟨rfl, hsz, hlo, hP, hK, hDL, hZ⟩ := hv
  have hx := B.exec
  have hb := B.bytes
  have hr := B.returns
  have hts := WS_ts B.pre
  have hown : s.vm.findClass RX1 = some m.cls := findClass_of_methodNamed B.named
  have hlocks := B.notSynchronized
  subst hsz
  have hD := hDL.self (sz := s.heap.size)
  have hAlo := A_lo hDL hlo
  generalize hAe : va_A [(z0, .inr (1, (fX1 c0 z1 z2 z3 (nI pn) pf pd pe))), (aI k z1 4 (nF pb)), (aI k z2 100 pco), (c0, .inr (4, (fX4 c1 c2 (nI cc) (nI rz) ro sd)))] s.heap.size = A at hD hAlo ⊢
  have hA : ∀ q : Nat, s.heap.size ≤ q → A q := fun q h => by rw [← hAe]; exact Or.inr h
  have hS : va_S A s.heap s.heap [] := va_S.rf
  have hl := lv_entry ([.ref z0]) (n := 5) (Nat.le_of_ble_eq_true rfl)
  rw [lg_entry_eq]
  generalize (lg_sl ([.ref z0]) ++ List.replicate (5 - (lg_sl ([.ref z0])).length) Slot.unset).toArray = ls at hl ⊢
  have hl : lv_has ls 5 [(0, .ref z0)] := hl
  refine lv_iconst (v := 0) hx hb dX1_changeInTurn_0 (by decide) ?_
  refine lv_istore_n (lv' := [(1, .int 0), (0, .ref z0)]) hx hb dX1_changeInTurn_1 rfl hl (by decide) rfl (fun ls hl => ?_)
  refine lv_aload_n hx hb dX1_changeInTurn_2 rfl (lv_at hl 1 rfl) ?_
  refine va_get (D := D) (ci := 1) (v := .int pf) (C := RX1) (T := TX1) (N := 8) hx hb hts inX1 hown hK hP 0 rfl rfl 5 (by decide) (hts _ tw_241) (fun _ h9 => h9) rfl dX1_changeInTurn_3 ?_
  refine lv_istore_n (lv' := [(2, .int pf), (1, .int 0), (0, .ref z0)]) hx hb dX1_changeInTurn_6 rfl hl (by decide) rfl (fun ls hl => ?_)
  refine lv_iconst (v := 0) hx hb dX1_changeInTurn_7 (by decide) ?_
  refine lv_istore_n (lv' := [(3, .int 0), (2, .int pf), (1, .int 0), (0, .ref z0)]) hx hb dX1_changeInTurn_8 rfl hl (by decide) rfl (fun ls hl => ?_)
  refine W_loop (σ := Nat × Int32 × Int32 × (Nat → Nat)) (fun (n_ : Nat) (x_ : Nat × Int32 × Int32 × (Nat → Nat)) (H : Heap) (locs : List Loc) (ls : Array Slot) => match x_ with | (cn2_1, ch_1, lf_1, pb2_1) => n_ = 5 - cn2_1 ∧ ((cn2_1 ≤ 4 ∧ (ch_1 = 1 ∨ ch_1 = 0)) ∧ (∀ j, pb2_1 j ≤ 24)) ∧ va_P D classes [(z0, .inr (1, (fX1 c0 z1 z2 z3 (nI pn) pf pd pe))), (aI k z1 4 (nF pb2_1)), (aI k z2 100 pco), (c0, .inr (4, (fX4 c1 c2 (nI cc) (nI rz) ro sd)))] H ∧ va_D A [(z0, .inr (1, (fX1 c0 z1 z2 z3 (nI pn) pf pd pe))), (aI k z1 4 (nF pb2_1)), (aI k z2 100 pco), (c0, .inr (4, (fX4 c1 c2 (nI cc) (nI rz) ro sd)))] ∧ va_S A s.heap H locs ∧ lv_has ls 5 [(3, .int (nI cn2_1)), (2, .int lf_1), (1, .int ch_1), (0, .ref z0)]) (fun n_1 x_1 H locs ls hI ih_1 => ?_) _ (0, 0, pf, pb) ⟨rfl, ⟨⟨by omega, .inr rfl⟩, hpb⟩, hP, hD, hS, (lv_sub hl [0, 1, 2, 3] rfl)⟩
  obtain ⟨cn2_1, ch_1, lf_1, pb2_1⟩ := x_1
  obtain ⟨hm_1, hv_1, hP, hD, hS, hl⟩ := hI
  subst hm_1
  have hpl_1 := hv_1.2
  refine lv_iload_n hx hb dX1_changeInTurn_9 rfl (lv_at hl 0 rfl) ?_
  refine lv_aload_n hx hb dX1_changeInTurn_10 rfl (lv_at hl 3 rfl) ?_
  refine va_get (D := D) (ci := 1) (v := .ref c0) (C := RX1) (T := TX1) (N := 8) hx hb hts inX1 hown hK hP 0 rfl rfl 0 (by decide) (hts _ tw_235) (fun _ h9 => h9) rfl dX1_changeInTurn_11 ?_
  refine va_get (D := D) (ci := 4) (v := .int (nI cc)) (C := RX4) (T := TX4) (N := 6) hx hb hts inX4 hown hK hP 3 rfl rfl 2 (by decide) (hts _ tw_179) (fun _ h9 => h9) rfl dX1_changeInTurn_14 ?_
  refine lv_icmp_ge (tgt := 62) hx hb dX1_changeInTurn_17 (by decide) (fun c_2 => ?_) (fun c_2 => ?_)
  · have c_2 := (nI_leI (a := cc) (b := cn2_1) (by omega) (by omega)).mp c_2
    refine lv_iload_n hx hb dX1_changeInTurn_62 rfl (lv_at hl 2 rfl) ?_
    rcases hv_1.1.2 with hE_9 | hE_9
    · refine lv_ti (y := 1) hE_9 ?_
      obtain ⟨hP9, hD9⟩ := pd_sub [(z0, .inr (1, (fX1 c0 z1 z2 z3 (nI pn) pf pd pe))), (aI k z1 4 (nF pb2_1)), (aI k z2 100 pco), (c0, .inr (4, (fX4 c1 c2 (nI cc) (nI rz) ro sd)))] [0, 1, 2, 3] hP hD (by decide) rfl
      exact W.zret (v := 1) (ty := .boolean) hx hb hr rfl (fun t ht hW => ⟨⟨1, pb2_1, rfl, ⟨.inl rfl, hpl_1⟩, by rw [ht]; exact hP9, hD9⟩, hS.F ht⟩) hS.2.2 dX1_changeInTurn_63
    · refine lv_ti (y := 0) hE_9 ?_
      obtain ⟨hP9, hD9⟩ := pd_sub [(z0, .inr (1, (fX1 c0 z1 z2 z3 (nI pn) pf pd pe))), (aI k z1 4 (nF pb2_1)), (aI k z2 100 pco), (c0, .inr (4, (fX4 c1 c2 (nI cc) (nI rz) ro sd)))] [0, 1, 2, 3] hP hD (by decide) rfl
      exact W.zret (v := 0) (ty := .boolean) hx hb hr rfl (fun t ht hW => ⟨⟨0, pb2_1, rfl, ⟨.inr rfl, hpl_1⟩, by rw [ht]; exact hP9, hD9⟩, hS.F ht⟩) hS.2.2 dX1_changeInTurn_63
  · have c_2 : ¬ (cc ≤ cn2_1) := fun h => c_2 ((nI_leI (a := cc) (b := cn2_1) (by omega) (by omega)).mpr h)
    refine lv_aload_n hx hb dX1_changeInTurn_20 rfl (lv_at hl 3 rfl) ?_
    refine lv_iload_n hx hb dX1_changeInTurn_21 rfl (lv_at hl 0 rfl) ?_
    refine lv_iload_n hx hb dX1_changeInTurn_22 rfl (lv_at hl 1 rfl) ?_
    refine ro_i (D := D) (va_runV (As := [.int (nI cn2_1), .int lf_1]) (rest := []) ⟨hx, hb, hml, hown, hts⟩ ((x_bestBar l D k st lo c0 z0 z1 z2 z3 pn pf pd pe pb2_1 pco cn2_1 lf_1 (by first | assumption | omega) (by first | assumption | omega) hpl_1) H.size) (cwV 2 hts (gV tw_858 tw_860 tw_22 tw_84 tw_861) rfl rfl rfl (by decide +kernel) ⟨Nat.le_of_ble_eq_true rfl, Nat.le_of_ble_eq_true rfl⟩) (pV hS hAlo hlo hP hK (va_Dlo hD hAlo) hZ [0, 1, 2] (by decide) rfl (ci := 1) (q := (RX1, TX1, 8)) (q0 := 0) rfl rfl) rfl rfl hl.1 rfl (lv_room (Nat.le_of_ble_eq_true rfl)) dX1_changeInTurn_23 ⟨Nat.le_of_ble_eq_true rfl, Nat.le_of_ble_eq_true rfl⟩) hS hA hP (fun r_3 H locs hw_3 hP hS => ?_)
    try dsimp only at hw_3
    obtain ⟨zp_4, hzp_4, rfl⟩ := hw_3
    refine lv_istore (lv' := [(4, .int (nI zp_4)), (3, .int (nI cn2_1)), (2, .int lf_1), (1, .int ch_1), (0, .ref z0)]) hx hb dX1_changeInTurn_26 hl (by decide) rfl (fun ls hl => ?_)
    refine lv_iload hx hb dX1_changeInTurn_28 (lv_at hl 0 rfl) ?_
    refine lv_aload_n hx hb dX1_changeInTurn_30 rfl (lv_at hl 4 rfl) ?_
    refine va_get (D := D) (ci := 1) (v := .ref z1) (C := RX1) (T := TX1) (N := 8) hx hb hts inX1 hown hK hP 0 rfl rfl 1 (by decide) (hts _ tw_236) (fun _ h9 => h9) rfl dX1_changeInTurn_31 ?_
    refine lv_iload_n hx hb dX1_changeInTurn_34 rfl (lv_at hl 1 rfl) ?_
    refine va_iald hx hb hK hP 1 1 rfl rfl (vp_in_nI (by omega) (by decide)) dX1_changeInTurn_35 ?_
    have hq_5 := hpl_1 cn2_1
    refine lv_ti (y := (nI (pb2_1 cn2_1))) (by rw [nI_clamp (by omega)]; rfl) ?_
    refine lv_icmp_eq (tgt := 49) hx hb dX1_changeInTurn_36 (by decide) (fun c_6 => ?_) (fun c_6 => ?_)
    · have c_6 := (nI_eq (a := zp_4) (b := (pb2_1 cn2_1)) (by omega) (by omega)).mp c_6
      refine lv_aload_n hx hb dX1_changeInTurn_49 rfl (lv_at hl 4 rfl) ?_
      refine lv_iload_n hx hb dX1_changeInTurn_50 rfl (lv_at hl 1 rfl) ?_
      refine lv_iload_n hx hb dX1_changeInTurn_51 rfl (lv_at hl 2 rfl) ?_
      refine ro_i (D := D) (va_runV (As := [.int (nI cn2_1), .int lf_1]) (rest := []) ⟨hx, hb, hml, hown, hts⟩ ((x_leftBehind l D k st lo c0 z0 z1 z2 z3 pn pf pd pe pb2_1 cn2_1 lf_1 (by first | assumption | omega) (by first | assumption | omega) hpl_1) H.size) (cwV 2 hts (gV tw_834 tw_836 tw_19 tw_84 tw_837) rfl rfl rfl (by decide +kernel) ⟨Nat.le_of_ble_eq_true rfl, Nat.le_of_ble_eq_true rfl⟩) (pV hS hAlo hlo hP hK (va_Dlo hD hAlo) hZ [0, 1] (by decide) rfl (ci := 1) (q := (RX1, TX1, 8)) (q0 := 0) rfl rfl) rfl rfl hl.1 rfl (lv_room (Nat.le_of_ble_eq_true rfl)) dX1_changeInTurn_52 ⟨Nat.le_of_ble_eq_true rfl, Nat.le_of_ble_eq_true rfl⟩) hS hA hP (fun r_7 H locs hw_7 hP hS => ?_)
      try dsimp only at hw_7
      refine lv_istore_n (lv' := [(2, .int r_7), (4, .int (nI zp_4)), (3, .int (nI cn2_1)), (1, .int ch_1), (0, .ref z0)]) hx hb dX1_changeInTurn_55 rfl hl (by decide) rfl (fun ls hl => ?_)
      refine lv_iinc (v := (nI (cn2_1 + 1))) (lv' := [(3, .int (nI (cn2_1 + 1))), (2, .int r_7), (4, .int (nI zp_4)), (1, .int ch_1), (0, .ref z0)]) hx hb dX1_changeInTurn_56 hl (k := 2) rfl (nI_add cn2_1 1) (by decide) rfl (fun ls hl => ?_)
      refine lv_goto (tgt := 9) hx hb dX1_changeInTurn_59 (by decide) ?_
      exact ih_1 _ (cn2_1 + 1, ch_1, r_7, pb2_1) _ _ _ (by omega) ⟨rfl, ⟨⟨by omega, hv_1.1.2⟩, hpl_1⟩, hP, hD, hS, (lv_sub hl [0, 1, 3, 4] rfl)⟩
    · have c_6 : ¬ (zp_4 = (pb2_1 cn2_1)) := fun h => c_6 ((nI_eq (a := zp_4) (b := (pb2_1 cn2_1)) (by omega) (by omega)).mpr h)
      refine lv_aload_n hx hb dX1_changeInTurn_39 rfl (lv_at hl 4 rfl) ?_
      refine va_get (D := D) (ci := 1) (v := .ref z1) (C := RX1) (T := TX1) (N := 8) hx hb hts inX1 hown hK hP 0 rfl rfl 1 (by decide) (hts _ tw_236) (fun _ h9 => h9) rfl dX1_changeInTurn_40 ?_
      refine lv_iload_n hx hb dX1_changeInTurn_43 rfl (lv_at hl 1 rfl) ?_
      refine lv_iload hx hb dX1_changeInTurn_44 (lv_at hl 0 rfl) ?_
      refine va_iast hx hb hK hP hD hS 1 1 rfl rfl (vp_in_nI (by omega) (by decide)) dX1_changeInTurn_46 (fun H locs hP hD hS => ?_)
      have hQ9 := pd_mk [(z0, .inr (1, (fX1 c0 z1 z2 z3 (nI pn) pf pd pe))), (aI k z1 4 (upd (nF pb2_1) (Int32.toNatClampNeg (nI cn2_1)) (nI zp_4))), (aI k z2 100 pco), (c0, .inr (4, (fX4 c1 c2 (nI cc) (nI rz) ro sd)))] hP hD
      clear hP hD
      obtain ⟨hP, hD⟩ := hQ9
      rw [nI_clamp (n := cn2_1) (by omega)] at hP hD
      rw [show upd (nF pb2_1) cn2_1 (nI zp_4) = nF (fun j => if j = cn2_1 then zp_4 else pb2_1 j) from nF_upd _ _ _] at hP hD
      obtain ⟨d_9, hd_9⟩ : ∃ z : Nat → Nat, z = (fun j => if j = cn2_1 then zp_4 else pb2_1 j) := ⟨_, rfl⟩
      rw [← hd_9] at hP hD
      have hbb_9 : ∀ j, d_9 j ≤ 24 := by rw [hd_9]; exact up_le hpl_1 (by omega)
      refine lv_iconst (v := 1) hx hb dX1_changeInTurn_47 (by decide) ?_
      refine lv_istore_n (lv' := [(1, .int 1), (4, .int (nI zp_4)), (3, .int (nI cn2_1)), (2, .int lf_1), (0, .ref z0)]) hx hb dX1_changeInTurn_48 rfl hl (by decide) rfl (fun ls hl => ?_)
      refine lv_aload_n hx hb dX1_changeInTurn_49 rfl (lv_at hl 4 rfl) ?_
      refine lv_iload_n hx hb dX1_changeInTurn_50 rfl (lv_at hl 2 rfl) ?_
      refine lv_iload_n hx hb dX1_changeInTurn_51 rfl (lv_at hl 3 rfl) ?_
      refine ro_i (D := D) (va_runV (As := [.int (nI cn2_1), .int lf_1]) (rest := []) ⟨hx, hb, hml, hown, hts⟩ ((x_leftBehind l D k st lo c0 z0 z1 z2 z3 pn pf pd pe d_9 cn2_1 lf_1 (by first | assumption | omega) (by first | assumption | omega) hbb_9) H.size) (cwV 2 hts (gV tw_834 tw_836 tw_19 tw_84 tw_837) rfl rfl rfl (by decide +kernel) ⟨Nat.le_of_ble_eq_true rfl, Nat.le_of_ble_eq_true rfl⟩) (pV hS hAlo hlo hP hK (va_Dlo hD hAlo) hZ [0, 1] (by decide) rfl (ci := 1) (q := (RX1, TX1, 8)) (q0 := 0) rfl rfl) rfl rfl hl.1 rfl (lv_room (Nat.le_of_ble_eq_true rfl)) dX1_changeInTurn_52 ⟨Nat.le_of_ble_eq_true rfl, Nat.le_of_ble_eq_true rfl⟩) hS hA hP (fun r_10 H locs hw_10 hP hS => ?_)
      try dsimp only at hw_10
      refine lv_istore_n (lv' := [(2, .int r_10), (1, .int 1), (4, .int (nI zp_4)), (3, .int (nI cn2_1)), (0, .ref z0)]) hx hb dX1_changeInTurn_55 rfl hl (by decide) rfl (fun ls hl => ?_)
      refine lv_iinc (v := (nI (cn2_1 + 1))) (lv' := [(3, .int (nI (cn2_1 + 1))), (2, .int r_10), (1, .int 1), (4, .int (nI zp_4)), (0, .ref z0)]) hx hb dX1_changeInTurn_56 hl (k := 3) rfl (nI_add cn2_1 1) (by decide) rfl (fun ls hl => ?_)
      refine lv_goto (tgt := 9) hx hb dX1_changeInTurn_59 (by decide) ?_
      exact ih_1 _ (cn2_1 + 1, 1, r_10, d_9) _ _ _ (by omega) ⟨rfl, ⟨⟨by omega, .inl rfl⟩, hbb_9⟩, hP, hD, hS, (lv_sub hl [0, 1, 2, 4] rfl)⟩

theorem dX1_goByTurns_0 : decode cX1_goByTurns 0 = .ok (.iconst 0, 1) := by decide +kernel
theorem dX1_goByTurns_1 : decode cX1_goByTurns 1 = .ok (.istore_n 1, 1) := by decide +kernel
theorem dX1_goByTurns_2 : decode cX1_goByTurns 2 = .ok (.iload_n 1, 1) := by decide +kernel
theorem dX1_goByTurns_3 : decode cX1_goByTurns 3 = .ok (.bipush 50, 2) := by decide +kernel
theorem dX1_goByTurns_5 : decode cX1_goByTurns 5 = .ok (.if_icmp .ge 18, 3) := by decide +kernel
theorem dX1_goByTurns_8 : decode cX1_goByTurns 8 = .ok (.aload_n 0, 1) := by decide +kernel
theorem dX1_goByTurns_9 : decode cX1_goByTurns 9 = .ok (.invokevirtual 86, 3) := by decide +kernel
theorem dX1_goByTurns_12 : decode cX1_goByTurns 12 = .ok (.ifCond .ne 5, 3) := by decide +kernel
theorem dX1_goByTurns_15 : decode cX1_goByTurns 15 = .ok (.iload_n 1, 1) := by decide +kernel
theorem dX1_goByTurns_16 : decode cX1_goByTurns 16 = .ok (.ireturn, 1) := by decide +kernel
theorem dX1_goByTurns_17 : decode cX1_goByTurns 17 = .ok (.iinc 1 1, 3) := by decide +kernel
theorem dX1_goByTurns_20 : decode cX1_goByTurns 20 = .ok (.goto (-18), 3) := by decide +kernel
theorem dX1_goByTurns_23 : decode cX1_goByTurns 23 = .ok (.iconst (-1), 1) := by decide +kernel
theorem dX1_goByTurns_24 : decode cX1_goByTurns 24 = .ok (.ireturn, 1) := by decide +kernel
set_option maxHeartbeats 4000000 in
set_option maxRecDepth 100000 in
theorem x_goByTurns (l : Launch) (D : va_G) (k : Nat → ClassId) (st : Nat → Nat) (lo : Nat) (c0 : Nat) (z0 : Nat) (z1 : Nat) (z2 : Nat) (z3 : Nat) (pn : Nat) (pf : Int32) (pd : Int32) (pe : Int32) (pb : Nat → Nat) (pco : Nat → Int32) (c1 : Nat) (c2 : Nat) (cc : Nat) (rz : Nat) (ro : Int32) (sd : Int32) (hpn : pn ≤ 24) (hcc : cc ≤ 4) (hpb : ∀ j, pb j ≤ 24) : CWi l D k st lo yX1_goByTurns cX1_goByTurns 2 (some .int) ({ frames := 4, cells := 0, slots := 0, locals := 96 }) 0 0 [.ref z0] [(z0, .inr (1, (fX1 c0 z1 z2 z3 (nI pn) pf pd pe))), (aI k z1 4 (nF pb)), (aI k z2 100 pco), (c0, .inr (4, (fX4 c1 c2 (nI cc) (nI rz) ro sd)))] (fun (r : Int32) (pb_ : (Nat → Nat)) => ∀ j, pb_ j ≤ 24) (fun (pb_ : (Nat → Nat)) => [(z0, .inr (1, (fX1 c0 z1 z2 z3 (nI pn) pf pd pe))), (aI k z1 4 (nF pb_)), (aI k z2 100 pco), (c0, .inr (4, (fX4 c1 c2 (nI cc) (nI rz) ro sd)))]) := by
  intro sz
  refine Met.ofW (cc := cX1_goByTurns) (maxL := 2) (ret := (some .int)) (by decide) rfl ?_
  intro p e s m args below meth c s₁ B hml hv
  obtain ⟨rfl, hsz, hlo, hP, hK, hDL, hZ⟩ := hv
  have hx := B.exec
  have hb := B.bytes
  have hr := B.returns
  have hts := WS_ts B.pre
  have hown : s.vm.findClass RX1 = some m.cls := findClass_of_methodNamed B.named
  have hlocks := B.notSynchronized
  subst hsz
  have hD := hDL.self (sz := s.heap.size)
  have hAlo := A_lo hDL hlo
  generalize hAe : va_A [(z0, .inr (1, (fX1 c0 z1 z2 z3 (nI pn) pf pd pe))), (aI k z1 4 (nF pb)), (aI k z2 100 pco), (c0, .inr (4, (fX4 c1 c2 (nI cc) (nI rz) ro sd)))] s.heap.size = A at hD hAlo ⊢
  have hA : ∀ q : Nat, s.heap.size ≤ q → A q := fun q h => by rw [← hAe]; exact Or.inr h
  have hS : va_S A s.heap s.heap [] := va_S.rf
  have hl := lv_entry ([.ref z0]) (n := 2) (Nat.le_of_ble_eq_true rfl)
  rw [lg_entry_eq]
  generalize (lg_sl ([.ref z0]) ++ List.replicate (2 - (lg_sl ([.ref z0])).length) Slot.unset).toArray = ls at hl ⊢
  have hl : lv_has ls 2 [(0, .ref z0)] := hl
  refine lv_iconst (v := 0) hx hb dX1_goByTurns_0 (by decide) ?_
  refine lv_istore_n (lv' := [(1, .int 0), (0, .ref z0)]) hx hb dX1_goByTurns_1 rfl hl (by decide) rfl (fun ls hl => ?_)
  refine W_loop (σ := Nat × (Nat → Nat)) (fun (n_ : Nat) (x_ : Nat × (Nat → Nat)) (H : Heap) (locs : List Loc) (ls : Array Slot) => match x_ with | (tt_1, pb2_1) => n_ = 51 - tt_1 ∧ ((tt_1 ≤ 50) ∧ (∀ j, pb2_1 j ≤ 24)) ∧ va_P D classes [(z0, .inr (1, (fX1 c0 z1 z2 z3 (nI pn) pf pd pe))), (aI k z1 4 (nF pb2_1)), (aI k z2 100 pco), (c0, .inr (4, (fX4 c1 c2 (nI cc) (nI rz) ro sd)))] H ∧ va_D A [(z0, .inr (1, (fX1 c0 z1 z2 z3 (nI pn) pf pd pe))), (aI k z1 4 (nF pb2_1)), (aI k z2 100 pco), (c0, .inr (4, (fX4 c1 c2 (nI cc) (nI rz) ro sd)))] ∧ va_S A s.heap H locs ∧ lv_has ls 2 [(1, .int (nI tt_1)), (0, .ref z0)]) (fun n_1 x_1 H locs ls hI ih_1 => ?_) _ (0, pb) ⟨rfl, ⟨by omega, hpb⟩, hP, hD, hS, (lv_sub hl [0, 1] rfl)⟩
  obtain ⟨tt_1, pb2_1⟩ := x_1
  obtain ⟨hm_1, hv_1, hP, hD, hS, hl⟩ := hI
  subst hm_1
  have hpl_1 := hv_1.2
  refine lv_iload_n hx hb dX1_goByTurns_2 rfl (lv_at hl 0 rfl) ?_
  refine lv_bipush (v := 50) hx hb dX1_goByTurns_3 (by decide) ?_
  refine lv_icmp_ge (tgt := 23) hx hb dX1_goByTurns_5 (by decide) (fun c_2 => ?_) (fun c_2 => ?_)
  · have c_2 := (nI_leI (a := 50) (b := tt_1) (by omega) (by omega)).mp c_2
    refine lv_iconst (v := (-1)) hx hb dX1_goByTurns_23 (by decide) ?_
    obtain ⟨hP9, hD9⟩ := pd_sub [(z0, .inr (1, (fX1 c0 z1 z2 z3 (nI pn) pf pd pe))), (aI k z1 4 (nF pb2_1)), (aI k z2 100 pco), (c0, .inr (4, (fX4 c1 c2 (nI cc) (nI rz) ro sd)))] [0, 1, 2, 3] hP hD (by decide) rfl
    exact W.iret (v := (-1)) hx hb hr (fun t ht hW => ⟨⟨(-1), pb2_1, rfl, hpl_1, by rw [ht]; exact hP9, hD9⟩, hS.F ht⟩) hS.2.2 dX1_goByTurns_24
  · have c_2 : ¬ (50 ≤ tt_1) := fun h => c_2 ((nI_leI (a := 50) (b := tt_1) (by omega) (by omega)).mpr h)
    refine lv_aload_n hx hb dX1_goByTurns_8 rfl (lv_at hl 1 rfl) ?_
    refine rw_i (D := D) (wr := []) (va_runV (As := []) (rest := []) ⟨hx, hb, hml, hown, hts⟩ ((x_changeInTurn l D k st lo c0 z0 z1 z2 z3 pn pf pd pe pb2_1 pco c1 c2 cc rz ro sd (by first | assumption | omega) (by first | assumption | omega) hpl_1) H.size) (cwV 0 hts (gV tw_875 tw_877 tw_24 tw_84 tw_878) rfl rfl rfl (by decide +kernel) ⟨Nat.le_of_ble_eq_true rfl, Nat.le_of_ble_eq_true rfl⟩) (pV hS hAlo hlo hP hK (va_Dlo hD hAlo) hZ [0, 1, 2, 3] (by decide) rfl (ci := 1) (q := (RX1, TX1, 8)) (q0 := 0) rfl rfl) rfl rfl hl.1 rfl (lv_room (Nat.le_of_ble_eq_true rfl)) dX1_goByTurns_9 ⟨Nat.le_of_ble_eq_true rfl, Nat.le_of_ble_eq_true rfl⟩) hS hA hP hD [0, 1, 2, 3] [] rfl rfl (by decide) (by decide) (fun r_3 u H locs hw_3 hP hD hS => ?_)
    obtain ⟨pb__3, rfl⟩ : ∃ z, z = u := ⟨_, rfl⟩
    have hQ9 := pd_mk [(z0, .inr (1, (fX1 c0 z1 z2 z3 (nI pn) pf pd pe))), (aI k z1 4 (nF pb__3)), (aI k z2 100 pco), (c0, .inr (4, (fX4 c1 c2 (nI cc) (nI rz) ro sd)))] hP hD
    clear hP hD
    obtain ⟨hP, hD⟩ := hQ9
    try dsimp only at hw_3
    rcases hw_3 with ⟨rfl | rfl, hw_3⟩
    · refine lv_if_ne (tgt := 17) hx hb dX1_goByTurns_12 (by decide) (fun _ => ?_) (fun h => absurd h (by decide))
      refine lv_iinc (v := (nI (tt_1 + 1))) (lv' := [(1, .int (nI (tt_1 + 1))), (0, .ref z0)]) hx hb dX1_goByTurns_17 hl (k := 0) rfl (nI_add tt_1 1) (by decide) rfl (fun ls hl => ?_)
      refine lv_goto (tgt := 2) hx hb dX1_goByTurns_20 (by decide) ?_
      exact ih_1 _ (tt_1 + 1, pb__3) _ _ _ (by omega) ⟨rfl, ⟨by omega, hw_3⟩, hP, hD, hS, (lv_sub hl [0, 1] rfl)⟩
    · refine lv_if_ne (tgt := 17) hx hb dX1_goByTurns_12 (by decide) (fun h => absurd (by decide) h) (fun _ => ?_)
      refine lv_iload_n hx hb dX1_goByTurns_15 rfl (lv_at hl 0 rfl) ?_
      obtain ⟨hP9, hD9⟩ := pd_sub [(z0, .inr (1, (fX1 c0 z1 z2 z3 (nI pn) pf pd pe))), (aI k z1 4 (nF pb__3)), (aI k z2 100 pco), (c0, .inr (4, (fX4 c1 c2 (nI cc) (nI rz) ro sd)))] [0, 1, 2, 3] hP hD (by decide) rfl
      exact W.iret (v := (nI tt_1)) hx hb hr (fun t ht hW => ⟨⟨(nI tt_1), pb__3, rfl, hw_3, by rw [ht]; exact hP9, hD9⟩, hS.F ht⟩) hS.2.2 dX1_goByTurns_16

theorem f_x_countRests_rows : True := trivial
theorem dX1_countRests_0 : decode cX1_countRests 0 = .ok (.aload_n 0, 1) := by decide +kernel
theorem dX1_countRests_1 : decode cX1_countRests 1 = .ok (.getfield 34, 3) := by decide +kernel
theorem dX1_countRests_4 : decode cX1_countRests 4 = .ok (.getfield 53, 3) := by decide +kernel
theorem dX1_countRests_7 : decode cX1_countRests 7 = .ok (.ifCond .le 10, 3) := by decide +kernel
theorem dX1_countRests_10 : decode cX1_countRests 10 = .ok (.aload_n 0, 1) := by decide +kernel
theorem dX1_countRests_11 : decode cX1_countRests 11 = .ok (.getfield 21, 3) := by decide +kernel
theorem dX1_countRests_14 : decode cX1_countRests 14 = .ok (.goto 4, 3) := by decide +kernel
theorem dX1_countRests_17 : decode cX1_countRests 17 = .ok (.iconst 0, 1) := by decide +kernel
theorem dX1_countRests_18 : decode cX1_countRests 18 = .ok (.istore_n 1, 1) := by decide +kernel
theorem dX1_countRests_19 : decode cX1_countRests 19 = .ok (.aload_n 0, 1) := by decide +kernel
theorem dX1_countRests_20 : decode cX1_countRests 20 = .ok (.getfield 34, 3) := by decide +kernel
theorem dX1_countRests_23 : decode cX1_countRests 23 = .ok (.getfield 53, 3) := by decide +kernel
theorem dX1_countRests_26 : decode cX1_countRests 26 = .ok (.iconst 1, 1) := by decide +kernel
theorem dX1_countRests_27 : decode cX1_countRests 27 = .ok (.if_icmp .le 10, 3) := by decide +kernel
theorem dX1_countRests_30 : decode cX1_countRests 30 = .ok (.aload_n 0, 1) := by decide +kernel
theorem dX1_countRests_31 : decode cX1_countRests 31 = .ok (.getfield 21, 3) := by decide +kernel
theorem dX1_countRests_34 : decode cX1_countRests 34 = .ok (.goto 4, 3) := by decide +kernel
theorem dX1_countRests_37 : decode cX1_countRests 37 = .ok (.iconst 0, 1) := by decide +kernel
theorem dX1_countRests_38 : decode cX1_countRests 38 = .ok (.istore_n 2, 1) := by decide +kernel
theorem dX1_countRests_39 : decode cX1_countRests 39 = .ok (.iconst 0, 1) := by decide +kernel
theorem dX1_countRests_40 : decode cX1_countRests 40 = .ok (.istore_n 3, 1) := by decide +kernel
theorem dX1_countRests_41 : decode cX1_countRests 41 = .ok (.iconst 0, 1) := by decide +kernel
theorem dX1_countRests_42 : decode cX1_countRests 42 = .ok (.istore 4, 2) := by decide +kernel
theorem dX1_countRests_44 : decode cX1_countRests 44 = .ok (.iload 4, 2) := by decide +kernel
theorem dX1_countRests_46 : decode cX1_countRests 46 = .ok (.iload_n 1, 1) := by decide +kernel
theorem dX1_countRests_47 : decode cX1_countRests 47 = .ok (.if_icmp .gt 55, 3) := by decide +kernel
theorem dX1_countRests_50 : decode cX1_countRests 50 = .ok (.iconst 0, 1) := by decide +kernel
theorem dX1_countRests_51 : decode cX1_countRests 51 = .ok (.istore 5, 2) := by decide +kernel
theorem dX1_countRests_53 : decode cX1_countRests 53 = .ok (.iload 5, 2) := by decide +kernel
theorem dX1_countRests_55 : decode cX1_countRests 55 = .ok (.iload_n 2, 1) := by decide +kernel
theorem dX1_countRests_56 : decode cX1_countRests 56 = .ok (.if_icmp .gt 40, 3) := by decide +kernel
theorem dX1_countRests_59 : decode cX1_countRests 59 = .ok (.aload_n 0, 1) := by decide +kernel
theorem dX1_countRests_60 : decode cX1_countRests 60 = .ok (.getfield 9, 3) := by decide +kernel
theorem dX1_countRests_63 : decode cX1_countRests 63 = .ok (.iconst 0, 1) := by decide +kernel
theorem dX1_countRests_64 : decode cX1_countRests 64 = .ok (.iload 4, 2) := by decide +kernel
theorem dX1_countRests_66 : decode cX1_countRests 66 = .ok (.iastore, 1) := by decide +kernel
theorem dX1_countRests_67 : decode cX1_countRests 67 = .ok (.aload_n 0, 1) := by decide +kernel
theorem dX1_countRests_68 : decode cX1_countRests 68 = .ok (.getfield 9, 3) := by decide +kernel
theorem dX1_countRests_71 : decode cX1_countRests 71 = .ok (.iconst 1, 1) := by decide +kernel
theorem dX1_countRests_72 : decode cX1_countRests 72 = .ok (.iload 5, 2) := by decide +kernel
theorem dX1_countRests_74 : decode cX1_countRests 74 = .ok (.iastore, 1) := by decide +kernel
theorem dX1_countRests_75 : decode cX1_countRests 75 = .ok (.iload_n 3, 1) := by decide +kernel
theorem dX1_countRests_76 : decode cX1_countRests 76 = .ok (.aload_n 0, 1) := by decide +kernel
theorem dX1_countRests_77 : decode cX1_countRests 77 = .ok (.invokevirtual 90, 3) := by decide +kernel
theorem dX1_countRests_80 : decode cX1_countRests 80 = .ok (.ifCond .eq 7, 3) := by decide +kernel
theorem dX1_countRests_83 : decode cX1_countRests 83 = .ok (.iconst 1, 1) := by decide +kernel
theorem dX1_countRests_84 : decode cX1_countRests 84 = .ok (.goto 4, 3) := by decide +kernel
theorem dX1_countRests_87 : decode cX1_countRests 87 = .ok (.iconst 0, 1) := by decide +kernel
theorem dX1_countRests_88 : decode cX1_countRests 88 = .ok (.iadd, 1) := by decide +kernel
theorem dX1_countRests_89 : decode cX1_countRests 89 = .ok (.istore_n 3, 1) := by decide +kernel
theorem dX1_countRests_90 : decode cX1_countRests 90 = .ok (.iinc 5 1, 3) := by decide +kernel
theorem dX1_countRests_93 : decode cX1_countRests 93 = .ok (.goto (-40), 3) := by decide +kernel
theorem dX1_countRests_96 : decode cX1_countRests 96 = .ok (.iinc 4 1, 3) := by decide +kernel
theorem dX1_countRests_99 : decode cX1_countRests 99 = .ok (.goto (-55), 3) := by decide +kernel
theorem dX1_countRests_102 : decode cX1_countRests 102 = .ok (.iload_n 3, 1) := by decide +kernel
theorem dX1_countRests_103 : decode cX1_countRests 103 = .ok (.ireturn, 1) := by decide +kernel
theorem dX1_costOfAll_0 : decode cX1_costOfAll 0 = .ok (.iconst 0, 1) := by decide +kernel
theorem dX1_costOfAll_1 : decode cX1_costOfAll 1 = .ok (.istore_n 1, 1) := by decide +kernel
theorem dX1_costOfAll_2 : decode cX1_costOfAll 2 = .ok (.aload_n 0, 1) := by decide +kernel
theorem dX1_costOfAll_3 : decode cX1_costOfAll 3 = .ok (.getfield 25, 3) := by decide +kernel
theorem dX1_costOfAll_6 : decode cX1_costOfAll 6 = .ok (.istore_n 2, 1) := by decide +kernel
theorem dX1_costOfAll_7 : decode cX1_costOfAll 7 = .ok (.iconst 0, 1) := by decide +kernel
theorem dX1_costOfAll_8 : decode cX1_costOfAll 8 = .ok (.istore_n 3, 1) := by decide +kernel
theorem dX1_costOfAll_9 : decode cX1_costOfAll 9 = .ok (.iload_n 3, 1) := by decide +kernel
theorem dX1_costOfAll_10 : decode cX1_costOfAll 10 = .ok (.aload_n 0, 1) := by decide +kernel
theorem dX1_costOfAll_11 : decode cX1_costOfAll 11 = .ok (.getfield 34, 3) := by decide +kernel
theorem dX1_costOfAll_14 : decode cX1_costOfAll 14 = .ok (.getfield 53, 3) := by decide +kernel
theorem dX1_costOfAll_17 : decode cX1_costOfAll 17 = .ok (.if_icmp .ge 35, 3) := by decide +kernel
theorem dX1_costOfAll_20 : decode cX1_costOfAll 20 = .ok (.iload_n 1, 1) := by decide +kernel
theorem dX1_costOfAll_21 : decode cX1_costOfAll 21 = .ok (.aload_n 0, 1) := by decide +kernel
theorem dX1_costOfAll_22 : decode cX1_costOfAll 22 = .ok (.iload_n 3, 1) := by decide +kernel
theorem dX1_costOfAll_23 : decode cX1_costOfAll 23 = .ok (.aload_n 0, 1) := by decide +kernel
theorem dX1_costOfAll_24 : decode cX1_costOfAll 24 = .ok (.aload_n 0, 1) := by decide +kernel
theorem dX1_costOfAll_25 : decode cX1_costOfAll 25 = .ok (.getfield 9, 3) := by decide +kernel
theorem dX1_costOfAll_28 : decode cX1_costOfAll 28 = .ok (.iload_n 3, 1) := by decide +kernel
theorem dX1_costOfAll_29 : decode cX1_costOfAll 29 = .ok (.iaload, 1) := by decide +kernel
theorem dX1_costOfAll_30 : decode cX1_costOfAll 30 = .ok (.iload_n 2, 1) := by decide +kernel
theorem dX1_costOfAll_31 : decode cX1_costOfAll 31 = .ok (.invokevirtual 74, 3) := by decide +kernel
theorem dX1_costOfAll_34 : decode cX1_costOfAll 34 = .ok (.invokevirtual 70, 3) := by decide +kernel
theorem dX1_costOfAll_37 : decode cX1_costOfAll 37 = .ok (.iadd, 1) := by decide +kernel
theorem dX1_costOfAll_38 : decode cX1_costOfAll 38 = .ok (.istore_n 1, 1) := by decide +kernel
theorem dX1_costOfAll_39 : decode cX1_costOfAll 39 = .ok (.aload_n 0, 1) := by decide +kernel
theorem dX1_costOfAll_40 : decode cX1_costOfAll 40 = .ok (.iload_n 3, 1) := by decide +kernel
theorem dX1_costOfAll_41 : decode cX1_costOfAll 41 = .ok (.iload_n 2, 1) := by decide +kernel
theorem dX1_costOfAll_42 : decode cX1_costOfAll 42 = .ok (.invokevirtual 77, 3) := by decide +kernel
theorem dX1_costOfAll_45 : decode cX1_costOfAll 45 = .ok (.istore_n 2, 1) := by decide +kernel
theorem dX1_costOfAll_46 : decode cX1_costOfAll 46 = .ok (.iinc 3 1, 3) := by decide +kernel
theorem dX1_costOfAll_49 : decode cX1_costOfAll 49 = .ok (.goto (-40), 3) := by decide +kernel
theorem dX1_costOfAll_52 : decode cX1_costOfAll 52 = .ok (.iload_n 1, 1) := by decide +kernel
theorem dX1_costOfAll_53 : decode cX1_costOfAll 53 = .ok (.ireturn, 1) := by decide +kernel
set_option maxHeartbeats 4000000 in
set_option maxRecDepth 100000 in
theorem x_costOfAll (l : Launch) (D : va_G) (k : Nat → ClassId) (st : Nat → Nat) (lo : Nat) (c0 : Nat) (z0 : Nat) (z1 : Nat) (z2 : Nat) (z3 : Nat) (pn : Nat) (pf : Int32) (pd : Int32) (pe : Int32) (pb : Nat → Nat) (pco : Nat → Int32) (c1 : Nat) (c2 : Nat) (cc : Nat) (rz : Nat) (ro : Int32) (sd : Int32) (hpn : pn ≤ 24) (hcc : cc ≤ 4) (hpb : ∀ j, pb j ≤ 24) : CRi l D k st lo yX1_costOfAll cX1_costOfAll 4 (some .int) ({ frames := 2, cells := 0, slots := 0, locals := 45 }) [.ref z0] [(z0, .inr (1, (fX1 c0 z1 z2 z3 (nI pn) pf pd pe))), (aI k z1 4 (nF pb)), (aI k z2 100 pco), (c0, .inr (4, (fX4 c1 c2 (nI cc) (nI rz) ro sd)))] (fun _ => True) := by
  intro sz
  refine Met.ofW (cc := cX1_costOfAll) (maxL := 4) (ret := (some .int)) (by decide) rfl ?_
  intro p e s m args below meth c s₁ B hml hv
  obtain ⟨rfl, hsz, hlo, hP, hK, hDL, hZ⟩ := hv
  have hx := B.exec
  have hb := B.bytes
  have hr := B.returns
  have hts := WS_ts B.pre
  have hown : s.vm.findClass RX1 = some m.cls := findClass_of_methodNamed B.named
  have hlocks := B.notSynchronized
  subst hsz
  have hA : ∀ q : Nat, s.heap.size ≤ q → (fun q : Nat => s.heap.size ≤ q) q := fun _ h => h
  have hAlo : ∀ q : Nat, (fun q : Nat => s.heap.size ≤ q) q → lo ≤ q := fun q h => Nat.le_trans hlo h
  have hS : va_S (fun q : Nat => s.heap.size ≤ q) s.heap s.heap [] := va_S.rf
  have hl := lv_entry ([.ref z0]) (n := 4) (Nat.le_of_ble_eq_true rfl)
  rw [lg_entry_eq]
  generalize (lg_sl ([.ref z0]) ++ List.replicate (4 - (lg_sl ([.ref z0])).length) Slot.unset).toArray = ls at hl ⊢
  have hl : lv_has ls 4 [(0, .ref z0)] := hl
  refine lv_iconst (v := 0) hx hb dX1_costOfAll_0 (by decide) ?_
  refine lv_istore_n (lv' := [(1, .int 0), (0, .ref z0)]) hx hb dX1_costOfAll_1 rfl hl (by decide) rfl (fun ls hl => ?_)
  refine lv_aload_n hx hb dX1_costOfAll_2 rfl (lv_at hl 1 rfl) ?_
  refine va_get (D := D) (ci := 1) (v := .int pf) (C := RX1) (T := TX1) (N := 8) hx hb hts inX1 hown hK hP 0 rfl rfl 5 (by decide) (hts _ tw_241) (fun _ h9 => h9) rfl dX1_costOfAll_3 ?_
  refine lv_istore_n (lv' := [(2, .int pf), (1, .int 0), (0, .ref z0)]) hx hb dX1_costOfAll_6 rfl hl (by decide) rfl (fun ls hl => ?_)
  refine lv_iconst (v := 0) hx hb dX1_costOfAll_7 (by decide) ?_
  refine lv_istore_n (lv' := [(3, .int 0), (2, .int pf), (1, .int 0), (0, .ref z0)]) hx hb dX1_costOfAll_8 rfl hl (by decide) rfl (fun ls hl => ?_)
  refine W_loop (σ := Nat × Int32 × Int32) (fun (n_ : Nat) (x_ : Nat × Int32 × Int32) (H : Heap) (locs : List Loc) (ls : Array Slot) => match x_ with | (cn2_1, al_1, lf_1) => n_ = 5 - cn2_1 ∧ (cn2_1 ≤ 4) ∧ va_P D classes [(z0, .inr (1, (fX1 c0 z1 z2 z3 (nI pn) pf pd pe))), (aI k z1 4 (nF pb)), (aI k z2 100 pco), (c0, .inr (4, (fX4 c1 c2 (nI cc) (nI rz) ro sd)))] H ∧ va_S (fun q : Nat => s.heap.size ≤ q) s.heap H locs ∧ lv_has ls 4 [(3, .int (nI cn2_1)), (2, .int lf_1), (1, .int al_1), (0, .ref z0)]) (fun n_1 x_1 H locs ls hI ih_1 => ?_) _ (0, 0, pf) ⟨rfl, (by omega), hP, hS, (lv_sub hl [0, 1, 2, 3] rfl)⟩
  obtain ⟨cn2_1, al_1, lf_1⟩ := x_1
  obtain ⟨hm_1, hv_1, hP, hS, hl⟩ := hI
  subst hm_1
  refine lv_iload_n hx hb dX1_costOfAll_9 rfl (lv_at hl 0 rfl) ?_
  refine lv_aload_n hx hb dX1_costOfAll_10 rfl (lv_at hl 3 rfl) ?_
  refine va_get (D := D) (ci := 1) (v := .ref c0) (C := RX1) (T := TX1) (N := 8) hx hb hts inX1 hown hK hP 0 rfl rfl 0 (by decide) (hts _ tw_235) (fun _ h9 => h9) rfl dX1_costOfAll_11 ?_
  refine va_get (D := D) (ci := 4) (v := .int (nI cc)) (C := RX4) (T := TX4) (N := 6) hx hb hts inX4 hown hK hP 3 rfl rfl 2 (by decide) (hts _ tw_179) (fun _ h9 => h9) rfl dX1_costOfAll_14 ?_
  refine lv_icmp_ge (tgt := 52) hx hb dX1_costOfAll_17 (by decide) (fun c_2 => ?_) (fun c_2 => ?_)
  · have c_2 := (nI_leI (a := cc) (b := cn2_1) (by omega) (by omega)).mp c_2
    refine lv_iload_n hx hb dX1_costOfAll_52 rfl (lv_at hl 2 rfl) ?_
    exact W.iret (v := al_1) hx hb hr (fun t ht hW => ⟨⟨al_1, (), rfl, trivial, trivial⟩, hS.F ht⟩) hS.2.2 dX1_costOfAll_53
  · have c_2 : ¬ (cc ≤ cn2_1) := fun h => c_2 ((nI_leI (a := cc) (b := cn2_1) (by omega) (by omega)).mpr h)
    refine lv_iload_n hx hb dX1_costOfAll_20 rfl (lv_at hl 2 rfl) ?_
    refine lv_aload_n hx hb dX1_costOfAll_21 rfl (lv_at hl 3 rfl) ?_
    refine lv_iload_n hx hb dX1_costOfAll_22 rfl (lv_at hl 0 rfl) ?_
    refine lv_aload_n hx hb dX1_costOfAll_23 rfl (lv_at hl 3 rfl) ?_
    refine lv_aload_n hx hb dX1_costOfAll_24 rfl (lv_at hl 3 rfl) ?_
    refine va_get (D := D) (ci := 1) (v := .ref z1) (C := RX1) (T := TX1) (N := 8) hx hb hts inX1 hown hK hP 0 rfl rfl 1 (by decide) (hts _ tw_236) (fun _ h9 => h9) rfl dX1_costOfAll_25 ?_
    refine lv_iload_n hx hb dX1_costOfAll_28 rfl (lv_at hl 0 rfl) ?_
    refine va_iald hx hb hK hP 1 1 rfl rfl (vp_in_nI (by omega) (by decide)) dX1_costOfAll_29 ?_
    have hq_3 := hpb cn2_1
    refine lv_ti (y := (nI (pb cn2_1))) (by rw [nI_clamp (by omega)]; rfl) ?_
    refine lv_iload_n hx hb dX1_costOfAll_30 rfl (lv_at hl 1 rfl) ?_
    refine ro_i (D := D) (va_runV (As := [.int (nI (pb cn2_1)), .int lf_1]) (rest := [.int (nI cn2_1), .ref z0, .int al_1]) ⟨hx, hb, hml, hown, hts⟩ ((x_placeFrom l D k st lo c0 z0 z1 z2 z3 pn pf pd pe (pb cn2_1) lf_1 (by first | assumption | omega) (by first | assumption | omega)) H.size) (cwV 2 hts (gV tw_838 tw_840 tw_20 tw_84 tw_841) rfl rfl rfl (by decide +kernel) ⟨Nat.le_of_ble_eq_true rfl, Nat.le_of_ble_eq_true rfl⟩) (pV hS hAlo hlo hP hK hDL hZ [0] (by decide) rfl (ci := 1) (q := (RX1, TX1, 8)) (q0 := 0) rfl rfl) rfl rfl hl.1 rfl (lv_room (Nat.le_of_ble_eq_true rfl)) dX1_costOfAll_31 ⟨Nat.le_of_ble_eq_true rfl, Nat.le_of_ble_eq_true rfl⟩) hS hA hP (fun r_4 H locs hw_4 hP hS => ?_)
    try dsimp only at hw_4
    obtain ⟨zp_5, hzp_5, rfl⟩ := hw_4
    refine ro_i (D := D) (va_runV (As := [.int (nI cn2_1), .int (nI zp_5)]) (rest := [.int al_1]) ⟨hx, hb, hml, hown, hts⟩ ((x_costAt l D k st lo c0 z0 z1 z2 z3 pn pf pd pe pco cn2_1 zp_5 (by first | assumption | omega) (by first | assumption | omega)) H.size) (cwV 2 hts (gV tw_866 tw_843 tw_844 tw_84 tw_845) rfl rfl rfl (by decide +kernel) ⟨Nat.le_of_ble_eq_true rfl, Nat.le_of_ble_eq_true rfl⟩) (pV hS hAlo hlo hP hK hDL hZ [0, 2] (by decide) rfl (ci := 1) (q := (RX1, TX1, 8)) (q0 := 0) rfl rfl) rfl rfl hl.1 rfl (lv_room (Nat.le_of_ble_eq_true rfl)) dX1_costOfAll_34 ⟨Nat.le_of_ble_eq_true rfl, Nat.le_of_ble_eq_true rfl⟩) hS hA hP (fun r_6 H locs hw_6 hP hS => ?_)
    try dsimp only at hw_6
    refine lv_iadd hx hb dX1_costOfAll_37 ?_
    refine lv_topi (fun x_7 ex_7 => ?_)
    refine lv_istore_n (lv' := [(1, .int x_7), (3, .int (nI cn2_1)), (2, .int lf_1), (0, .ref z0)]) hx hb dX1_costOfAll_38 rfl hl (by decide) rfl (fun ls hl => ?_)
    refine lv_aload_n hx hb dX1_costOfAll_39 rfl (lv_at hl 3 rfl) ?_
    refine lv_iload_n hx hb dX1_costOfAll_40 rfl (lv_at hl 1 rfl) ?_
    refine lv_iload_n hx hb dX1_costOfAll_41 rfl (lv_at hl 2 rfl) ?_
    refine ro_i (D := D) (va_runV (As := [.int (nI cn2_1), .int lf_1]) (rest := []) ⟨hx, hb, hml, hown, hts⟩ ((x_leftBehind l D k st lo c0 z0 z1 z2 z3 pn pf pd pe pb cn2_1 lf_1 (by first | assumption | omega) (by first | assumption | omega) hpb) H.size) (cwV 2 hts (gV tw_834 tw_836 tw_19 tw_84 tw_837) rfl rfl rfl (by decide +kernel) ⟨Nat.le_of_ble_eq_true rfl, Nat.le_of_ble_eq_true rfl⟩) (pV hS hAlo hlo hP hK hDL hZ [0, 1] (by decide) rfl (ci := 1) (q := (RX1, TX1, 8)) (q0 := 0) rfl rfl) rfl rfl hl.1 rfl (lv_room (Nat.le_of_ble_eq_true rfl)) dX1_costOfAll_42 ⟨Nat.le_of_ble_eq_true rfl, Nat.le_of_ble_eq_true rfl⟩) hS hA hP (fun r_8 H locs hw_8 hP hS => ?_)
    try dsimp only at hw_8
    refine lv_istore_n (lv' := [(2, .int r_8), (1, .int x_7), (3, .int (nI cn2_1)), (0, .ref z0)]) hx hb dX1_costOfAll_45 rfl hl (by decide) rfl (fun ls hl => ?_)
    refine lv_iinc (v := (nI (cn2_1 + 1))) (lv' := [(3, .int (nI (cn2_1 + 1))), (2, .int r_8), (1, .int x_7), (0, .ref z0)]) hx hb dX1_costOfAll_46 hl (k := 2) rfl (nI_add cn2_1 1) (by decide) rfl (fun ls hl => ?_)
    refine lv_goto (tgt := 9) hx hb dX1_costOfAll_49 (by decide) ?_
    exact ih_1 _ (cn2_1 + 1, x_7, r_8) _ _ _ (by omega) ⟨rfl, (by omega), hP, hS, (lv_sub hl [0, 1, 2, 3] rfl)⟩

theorem dX1_giveDoor_0 : decode cX1_giveDoor 0 = .ok (.iload_n 2, 1) := by decide +kernel
theorem dX1_giveDoor_1 : decode cX1_giveDoor 1 = .ok (.iconst 1, 1) := by decide +kernel
theorem dX1_giveDoor_2 : decode cX1_giveDoor 2 = .ok (.isub, 1) := by decide +kernel
theorem dX1_giveDoor_3 : decode cX1_giveDoor 3 = .ok (.istore_n 3, 1) := by decide +kernel
theorem dX1_giveDoor_4 : decode cX1_giveDoor 4 = .ok (.iload_n 3, 1) := by decide +kernel
theorem dX1_giveDoor_5 : decode cX1_giveDoor 5 = .ok (.ifCond .le 90, 3) := by decide +kernel
theorem dX1_giveDoor_8 : decode cX1_giveDoor 8 = .ok (.iconst 0, 1) := by decide +kernel
theorem dX1_giveDoor_9 : decode cX1_giveDoor 9 = .ok (.istore 4, 2) := by decide +kernel
theorem dX1_giveDoor_11 : decode cX1_giveDoor 11 = .ok (.iload 4, 2) := by decide +kernel
theorem dX1_giveDoor_13 : decode cX1_giveDoor 13 = .ok (.aload_n 0, 1) := by decide +kernel
theorem dX1_giveDoor_14 : decode cX1_giveDoor 14 = .ok (.getfield 34, 3) := by decide +kernel
theorem dX1_giveDoor_17 : decode cX1_giveDoor 17 = .ok (.getfield 53, 3) := by decide +kernel
theorem dX1_giveDoor_20 : decode cX1_giveDoor 20 = .ok (.if_icmp .ge 69, 3) := by decide +kernel
theorem dX1_giveDoor_23 : decode cX1_giveDoor 23 = .ok (.iload_n 3, 1) := by decide +kernel
theorem dX1_giveDoor_24 : decode cX1_giveDoor 24 = .ok (.iload 4, 2) := by decide +kernel
theorem dX1_giveDoor_26 : decode cX1_giveDoor 26 = .ok (.ishr, 1) := by decide +kernel
theorem dX1_giveDoor_27 : decode cX1_giveDoor 27 = .ok (.iconst 1, 1) := by decide +kernel
theorem dX1_giveDoor_28 : decode cX1_giveDoor 28 = .ok (.iand, 1) := by decide +kernel
theorem dX1_giveDoor_29 : decode cX1_giveDoor 29 = .ok (.ifCond .eq 54, 3) := by decide +kernel
theorem dX1_giveDoor_32 : decode cX1_giveDoor 32 = .ok (.aload_n 0, 1) := by decide +kernel
theorem dX1_giveDoor_33 : decode cX1_giveDoor 33 = .ok (.getfield 18, 3) := by decide +kernel
theorem dX1_giveDoor_36 : decode cX1_giveDoor 36 = .ok (.iload_n 3, 1) := by decide +kernel
theorem dX1_giveDoor_37 : decode cX1_giveDoor 37 = .ok (.iconst 1, 1) := by decide +kernel
theorem dX1_giveDoor_38 : decode cX1_giveDoor 38 = .ok (.iload 4, 2) := by decide +kernel
theorem dX1_giveDoor_40 : decode cX1_giveDoor 40 = .ok (.ishl, 1) := by decide +kernel
theorem dX1_giveDoor_41 : decode cX1_giveDoor 41 = .ok (.iconst (-1), 1) := by decide +kernel
theorem dX1_giveDoor_42 : decode cX1_giveDoor 42 = .ok (.ixor, 1) := by decide +kernel
theorem dX1_giveDoor_43 : decode cX1_giveDoor 43 = .ok (.iand, 1) := by decide +kernel
theorem dX1_giveDoor_44 : decode cX1_giveDoor 44 = .ok (.iaload, 1) := by decide +kernel
theorem dX1_giveDoor_45 : decode cX1_giveDoor 45 = .ok (.aload_n 0, 1) := by decide +kernel
theorem dX1_giveDoor_46 : decode cX1_giveDoor 46 = .ok (.iload 4, 2) := by decide +kernel
theorem dX1_giveDoor_48 : decode cX1_giveDoor 48 = .ok (.iload_n 1, 1) := by decide +kernel
theorem dX1_giveDoor_49 : decode cX1_giveDoor 49 = .ok (.invokevirtual 70, 3) := by decide +kernel
theorem dX1_giveDoor_52 : decode cX1_giveDoor 52 = .ok (.iadd, 1) := by decide +kernel
theorem dX1_giveDoor_53 : decode cX1_giveDoor 53 = .ok (.aload_n 0, 1) := by decide +kernel
theorem dX1_giveDoor_54 : decode cX1_giveDoor 54 = .ok (.iload 4, 2) := by decide +kernel
theorem dX1_giveDoor_56 : decode cX1_giveDoor 56 = .ok (.aload_n 0, 1) := by decide +kernel
theorem dX1_giveDoor_57 : decode cX1_giveDoor 57 = .ok (.getfield 21, 3) := by decide +kernel
theorem dX1_giveDoor_60 : decode cX1_giveDoor 60 = .ok (.invokevirtual 70, 3) := by decide +kernel
theorem dX1_giveDoor_63 : decode cX1_giveDoor 63 = .ok (.isub, 1) := by decide +kernel
theorem dX1_giveDoor_64 : decode cX1_giveDoor 64 = .ok (.istore 5, 2) := by decide +kernel
theorem dX1_giveDoor_66 : decode cX1_giveDoor 66 = .ok (.aload_n 0, 1) := by decide +kernel
theorem dX1_giveDoor_67 : decode cX1_giveDoor 67 = .ok (.getfield 18, 3) := by decide +kernel
theorem dX1_giveDoor_70 : decode cX1_giveDoor 70 = .ok (.iload_n 3, 1) := by decide +kernel
theorem dX1_giveDoor_71 : decode cX1_giveDoor 71 = .ok (.aload_n 0, 1) := by decide +kernel
theorem dX1_giveDoor_72 : decode cX1_giveDoor 72 = .ok (.getfield 18, 3) := by decide +kernel
theorem dX1_giveDoor_75 : decode cX1_giveDoor 75 = .ok (.iload_n 3, 1) := by decide +kernel
theorem dX1_giveDoor_76 : decode cX1_giveDoor 76 = .ok (.iaload, 1) := by decide +kernel
theorem dX1_giveDoor_77 : decode cX1_giveDoor 77 = .ok (.iload 5, 2) := by decide +kernel
theorem dX1_giveDoor_79 : decode cX1_giveDoor 79 = .ok (.invokestatic 97, 3) := by decide +kernel
theorem dX1_giveDoor_82 : decode cX1_giveDoor 82 = .ok (.iastore, 1) := by decide +kernel
theorem dX1_giveDoor_83 : decode cX1_giveDoor 83 = .ok (.iinc 4 1, 3) := by decide +kernel
theorem dX1_giveDoor_86 : decode cX1_giveDoor 86 = .ok (.goto (-75), 3) := by decide +kernel
theorem dX1_giveDoor_89 : decode cX1_giveDoor 89 = .ok (.iinc 3 (-1), 3) := by decide +kernel
theorem dX1_giveDoor_92 : decode cX1_giveDoor 92 = .ok (.goto (-88), 3) := by decide +kernel
theorem dX1_giveDoor_95 : decode cX1_giveDoor 95 = .ok (.return_, 1) := by decide +kernel
set_option maxHeartbeats 4000000 in
set_option maxRecDepth 100000 in
theorem x_giveDoor (l : Launch) (D : va_G) (k : Nat → ClassId) (st : Nat → Nat) (lo : Nat) (c0 : Nat) (z0 : Nat) (z1 : Nat) (z2 : Nat) (z3 : Nat) (pn : Nat) (pf : Int32) (pd : Int32) (pe : Int32) (pco : Nat → Int32) (pg : Nat → Int32) (c1 : Nat) (c2 : Nat) (cc : Nat) (rz : Nat) (ro : Int32) (sd : Int32) (i : Nat) (se : Nat) (hpn : pn ≤ 24) (hcc : cc ≤ 4) (hi : i < 24) (hse : 1 ≤ se ∧ se ≤ 16) : CWv l D k st lo yX1_giveDoor cX1_giveDoor 6 none ({ frames := 1, cells := 0, slots := 0, locals := 60 }) 0 0 [.ref z0, .int (nI i), .int (nI se)] [(z0, .inr (1, (fX1 c0 z1 z2 z3 (nI pn) pf pd pe))), (aI k z2 100 pco), (aI k z3 16 pg), (c0, .inr (4, (fX4 c1 c2 (nI cc) (nI rz) ro sd)))] (fun (pg_ : (Nat → Int32)) => True) (fun (pg_ : (Nat → Int32)) => [(z0, .inr (1, (fX1 c0 z1 z2 z3 (nI pn) pf pd pe))), (aI k z2 100 pco), (aI k z3 16 pg_), (c0, .inr (4, (fX4 c1 c2 (nI cc) (nI rz) ro sd)))]) := by
  intro sz
  refine Met.ofW (cc := cX1_giveDoor) (maxL := 6) (ret := none) (by decide) rfl ?_
  intro p e s m args below meth c s₁ B hml hv
  obtain ⟨rfl, hsz, hlo, hP, hK, hDL, hZ⟩ := hv
  have hx := B.exec
  have hb := B.bytes
  have hr := B.returns
  have hts := WS_ts B.pre
  have hown : s.vm.findClass RX1 = some m.cls := findClass_of_methodNamed B.named
  have hlocks := B.notSynchronized
  subst hsz
  have hD := hDL.self (sz := s.heap.size)
  have hAlo := A_lo hDL hlo
  generalize hAe : va_A [(z0, .inr (1, (fX1 c0 z1 z2 z3 (nI pn) pf pd pe))), (aI k z2 100 pco), (aI k z3 16 pg), (c0, .inr (4, (fX4 c1 c2 (nI cc) (nI rz) ro sd)))] s.heap.size = A at hD hAlo ⊢
  have hA : ∀ q : Nat, s.heap.size ≤ q → A q := fun q h => by rw [← hAe]; exact Or.inr h
  have hS : va_S A s.heap s.heap [] := va_S.rf
  have hl := lv_entry ([.ref z0, .int (nI i), .int (nI se)]) (n := 6) (Nat.le_of_ble_eq_true rfl)
  rw [lg_entry_eq]
  generalize (lg_sl ([.ref z0, .int (nI i), .int (nI se)]) ++ List.replicate (6 - (lg_sl ([.ref z0, .int (nI i), .int (nI se)])).length) Slot.unset).toArray = ls at hl ⊢
  have hl : lv_has ls 6 [(0, .ref z0), (1, .int (nI i)), (2, .int (nI se))] := hl
  refine lv_iload_n hx hb dX1_giveDoor_0 rfl (lv_at hl 2 rfl) ?_
  refine lv_iconst (v := 1) hx hb dX1_giveDoor_1 (by decide) ?_
  refine lv_isub hx hb dX1_giveDoor_2 ?_
  refine lv_ti (y := (nI (se - 1))) (pk_sub (a := se) (b := 1) (by omega)) ?_
  refine lv_istore_n (lv' := [(3, .int (nI (se - 1))), (0, .ref z0), (1, .int (nI i)), (2, .int (nI se))]) hx hb dX1_giveDoor_3 rfl hl (by decide) rfl (fun ls hl => ?_)
  refine W_loop (σ := Nat × (Nat → Int32)) (fun (n_ : Nat) (x_ : Nat × (Nat → Int32)) (H : Heap) (locs : List Loc) (ls : Array Slot) => match x_ with | (sx_1, pg2_1) => n_ = 2 * sx_1 ∧ (sx_1 ≤ 15) ∧ va_P D classes [(z0, .inr (1, (fX1 c0 z1 z2 z3 (nI pn) pf pd pe))), (aI k z2 100 pco), (aI k z3 16 pg2_1), (c0, .inr (4, (fX4 c1 c2 (nI cc) (nI rz) ro sd)))] H ∧ va_D A [(z0, .inr (1, (fX1 c0 z1 z2 z3 (nI pn) pf pd pe))), (aI k z2 100 pco), (aI k z3 16 pg2_1), (c0, .inr (4, (fX4 c1 c2 (nI cc) (nI rz) ro sd)))] ∧ va_S A s.heap H locs ∧ lv_has ls 6 [(3, .int (nI sx_1)), (0, .ref z0), (1, .int (nI i)), (2, .int (nI se))]) (fun n_1 x_1 H locs ls hI ih_1 => ?_) _ (se - 1, pg) ⟨rfl, (by omega), hP, hD, hS, (lv_sub hl [0, 1, 2, 3] rfl)⟩
  obtain ⟨sx_1, pg2_1⟩ := x_1
  obtain ⟨hm_1, hv_1, hP, hD, hS, hl⟩ := hI
  subst hm_1
  refine lv_iload_n hx hb dX1_giveDoor_4 rfl (lv_at hl 0 rfl) ?_
  refine lv_if_le (tgt := 95) hx hb dX1_giveDoor_5 (by decide) (fun c_2 => ?_) (fun c_2 => ?_)
  · have c_2 := (nI_leI (a := sx_1) (b := 0) (by omega) (by omega)).mp c_2
    obtain ⟨hP9, hD9⟩ := pd_sub [(z0, .inr (1, (fX1 c0 z1 z2 z3 (nI pn) pf pd pe))), (aI k z2 100 pco), (aI k z3 16 pg2_1), (c0, .inr (4, (fX4 c1 c2 (nI cc) (nI rz) ro sd)))] [0, 1, 2, 3] hP hD (by decide) rfl
    exact W.vret hx hb hr (fun t ht hW => ⟨⟨pg2_1, rfl, trivial, by rw [ht]; exact hP9, hD9⟩, hS.F ht⟩) hS.2.2 dX1_giveDoor_95
  · have c_2 : ¬ (sx_1 ≤ 0) := fun h => c_2 ((nI_leI (a := sx_1) (b := 0) (by omega) (by omega)).mpr h)
    refine lv_iconst (v := 0) hx hb dX1_giveDoor_8 (by decide) ?_
    refine lv_istore (lv' := [(4, .int 0), (3, .int (nI sx_1)), (0, .ref z0), (1, .int (nI i)), (2, .int (nI se))]) hx hb dX1_giveDoor_9 hl (by decide) rfl (fun ls hl => ?_)
    refine W_loop (σ := Nat × (Nat → Int32)) (fun (n_ : Nat) (x_ : Nat × (Nat → Int32)) (H : Heap) (locs : List Loc) (ls : Array Slot) => match x_ with | (cn2_3, pg2_3) => n_ = 5 - cn2_3 ∧ (cn2_3 ≤ 4) ∧ va_P D classes [(z0, .inr (1, (fX1 c0 z1 z2 z3 (nI pn) pf pd pe))), (aI k z2 100 pco), (aI k z3 16 pg2_3), (c0, .inr (4, (fX4 c1 c2 (nI cc) (nI rz) ro sd)))] H ∧ va_D A [(z0, .inr (1, (fX1 c0 z1 z2 z3 (nI pn) pf pd pe))), (aI k z2 100 pco), (aI k z3 16 pg2_3), (c0, .inr (4, (fX4 c1 c2 (nI cc) (nI rz) ro sd)))] ∧ va_S A s.heap H locs ∧ lv_has ls 6 [(4, .int (nI cn2_3)), (3, .int (nI sx_1)), (0, .ref z0), (1, .int (nI i)), (2, .int (nI se))]) (fun n_3 x_3 H locs ls hI ih_3 => ?_) _ (0, pg2_1) ⟨rfl, (by omega), hP, hD, hS, (lv_sub hl [0, 1, 2, 3, 4] rfl)⟩
    obtain ⟨cn2_3, pg2_3⟩ := x_3
    obtain ⟨hm_3, hv_3, hP, hD, hS, hl⟩ := hI
    subst hm_3
    refine lv_iload hx hb dX1_giveDoor_11 (lv_at hl 0 rfl) ?_
    refine lv_aload_n hx hb dX1_giveDoor_13 rfl (lv_at hl 2 rfl) ?_
    refine va_get (D := D) (ci := 1) (v := .ref c0) (C := RX1) (T := TX1) (N := 8) hx hb hts inX1 hown hK hP 0 rfl rfl 0 (by decide) (hts _ tw_235) (fun _ h9 => h9) rfl dX1_giveDoor_14 ?_
    refine va_get (D := D) (ci := 4) (v := .int (nI cc)) (C := RX4) (T := TX4) (N := 6) hx hb hts inX4 hown hK hP 3 rfl rfl 2 (by decide) (hts _ tw_179) (fun _ h9 => h9) rfl dX1_giveDoor_17 ?_
    refine lv_icmp_ge (tgt := 89) hx hb dX1_giveDoor_20 (by decide) (fun c_4 => ?_) (fun c_4 => ?_)
    · have c_4 := (nI_leI (a := cc) (b := cn2_3) (by omega) (by omega)).mp c_4
      refine lv_iinc (v := (nI (sx_1 - 1))) (lv' := [(3, .int (nI (sx_1 - 1))), (4, .int (nI cn2_3)), (0, .ref z0), (1, .int (nI i)), (2, .int (nI se))]) hx hb dX1_giveDoor_89 hl (k := 1) rfl (by rw [dn1]; exact pk_sub (a := sx_1) (b := 1) (by omega)) (by decide) rfl (fun ls hl => ?_)
      refine lv_goto (tgt := 4) hx hb dX1_giveDoor_92 (by decide) ?_
      exact ih_1 _ (sx_1 - 1, pg2_3) _ _ _ (by omega) ⟨rfl, (by omega), hP, hD, hS, (lv_sub hl [0, 2, 3, 4] rfl)⟩
    · have c_4 : ¬ (cc ≤ cn2_3) := fun h => c_4 ((nI_leI (a := cc) (b := cn2_3) (by omega) (by omega)).mpr h)
      refine lv_iload_n hx hb dX1_giveDoor_23 rfl (lv_at hl 1 rfl) ?_
      refine lv_iload hx hb dX1_giveDoor_24 (lv_at hl 0 rfl) ?_
      refine lv_ishr hx hb dX1_giveDoor_26 ?_
      refine lv_topi (fun x_5 ex_5 => ?_)
      refine lv_iconst (v := 1) hx hb dX1_giveDoor_27 (by decide) ?_
      refine lv_iand hx hb dX1_giveDoor_28 ?_
      refine lv_topi (fun x_6 ex_6 => ?_)
      refine lv_if_eq (tgt := 83) hx hb dX1_giveDoor_29 (by decide) (fun c_7 => ?_) (fun c_7 => ?_)
      · refine lv_iinc (v := (nI (cn2_3 + 1))) (lv' := [(4, .int (nI (cn2_3 + 1))), (3, .int (nI sx_1)), (0, .ref z0), (1, .int (nI i)), (2, .int (nI se))]) hx hb dX1_giveDoor_83 hl (k := 0) rfl (nI_add cn2_3 1) (by decide) rfl (fun ls hl => ?_)
        refine lv_goto (tgt := 11) hx hb dX1_giveDoor_86 (by decide) ?_
        exact ih_3 _ (cn2_3 + 1, pg2_3) _ _ _ (by omega) ⟨rfl, (by omega), hP, hD, hS, (lv_sub hl [0, 1, 2, 3, 4] rfl)⟩
      · refine lv_aload_n hx hb dX1_giveDoor_32 rfl (lv_at hl 2 rfl) ?_
        refine va_get (D := D) (ci := 1) (v := .ref z3) (C := RX1) (T := TX1) (N := 8) hx hb hts inX1 hown hK hP 0 rfl rfl 3 (by decide) (hts _ tw_239) (fun _ h9 => h9) rfl dX1_giveDoor_33 ?_
        refine lv_iload_n hx hb dX1_giveDoor_36 rfl (lv_at hl 1 rfl) ?_
        refine lv_iconst (v := 1) hx hb dX1_giveDoor_37 (by decide) ?_
        refine lv_iload hx hb dX1_giveDoor_38 (lv_at hl 0 rfl) ?_
        refine lv_ishl hx hb dX1_giveDoor_40 ?_
        refine lv_topi (fun x_8 ex_8 => ?_)
        refine lv_iconst (v := (-1)) hx hb dX1_giveDoor_41 (by decide) ?_
        refine lv_ixor hx hb dX1_giveDoor_42 ?_
        refine lv_topi (fun x_9 ex_9 => ?_)
        obtain ⟨za_10, hza_10, eza_10⟩ := an16 sx_1 (by omega) cn2_3 (by omega)
        refine lv_iand hx hb dX1_giveDoor_43 ?_
        refine lv_ti (y := (nI za_10)) (by rw [ex_9, ex_8]; exact eza_10) ?_
        refine va_iald hx hb hK hP 2 1 rfl rfl (vp_in_nI (by omega) (by decide)) dX1_giveDoor_44 ?_
        refine lv_ti (y := (pg2_3 za_10)) (by rw [nI_clamp (by omega)]) ?_
        refine lv_aload_n hx hb dX1_giveDoor_45 rfl (lv_at hl 2 rfl) ?_
        refine lv_iload hx hb dX1_giveDoor_46 (lv_at hl 0 rfl) ?_
        refine lv_iload_n hx hb dX1_giveDoor_48 rfl (lv_at hl 3 rfl) ?_
        refine ro_i (D := D) (va_runV (As := [.int (nI cn2_3), .int (nI i)]) (rest := [.int (pg2_3 za_10)]) ⟨hx, hb, hml, hown, hts⟩ ((x_costAt l D k st lo c0 z0 z1 z2 z3 pn pf pd pe pco cn2_3 i (by first | assumption | omega) (by first | assumption | omega)) H.size) (cwV 2 hts (gV tw_866 tw_843 tw_844 tw_84 tw_845) rfl rfl rfl (by decide +kernel) ⟨Nat.le_of_ble_eq_true rfl, Nat.le_of_ble_eq_true rfl⟩) (pV hS hAlo hlo hP hK (va_Dlo hD hAlo) hZ [0, 1] (by decide) rfl (ci := 1) (q := (RX1, TX1, 8)) (q0 := 0) rfl rfl) rfl rfl hl.1 rfl (lv_room (Nat.le_of_ble_eq_true rfl)) dX1_giveDoor_49 ⟨Nat.le_of_ble_eq_true rfl, Nat.le_of_ble_eq_true rfl⟩) hS hA hP (fun r_11 H locs hw_11 hP hS => ?_)
        try dsimp only at hw_11
        refine lv_iadd hx hb dX1_giveDoor_52 ?_
        refine lv_topi (fun x_12 ex_12 => ?_)
        refine lv_aload_n hx hb dX1_giveDoor_53 rfl (lv_at hl 2 rfl) ?_
        refine lv_iload hx hb dX1_giveDoor_54 (lv_at hl 0 rfl) ?_
        refine lv_aload_n hx hb dX1_giveDoor_56 rfl (lv_at hl 2 rfl) ?_
        refine va_get (D := D) (ci := 1) (v := .int (nI pn)) (C := RX1) (T := TX1) (N := 8) hx hb hts inX1 hown hK hP 0 rfl rfl 4 (by decide) (hts _ tw_240) (fun _ h9 => h9) rfl dX1_giveDoor_57 ?_
        refine ro_i (D := D) (va_runV (As := [.int (nI cn2_3), .int (nI pn)]) (rest := [.int x_12]) ⟨hx, hb, hml, hown, hts⟩ ((x_costAt l D k st lo c0 z0 z1 z2 z3 pn pf pd pe pco cn2_3 pn (by first | assumption | omega) (by first | assumption | omega)) H.size) (cwV 2 hts (gV tw_866 tw_843 tw_844 tw_84 tw_845) rfl rfl rfl (by decide +kernel) ⟨Nat.le_of_ble_eq_true rfl, Nat.le_of_ble_eq_true rfl⟩) (pV hS hAlo hlo hP hK (va_Dlo hD hAlo) hZ [0, 1] (by decide) rfl (ci := 1) (q := (RX1, TX1, 8)) (q0 := 0) rfl rfl) rfl rfl hl.1 rfl (lv_room (Nat.le_of_ble_eq_true rfl)) dX1_giveDoor_60 ⟨Nat.le_of_ble_eq_true rfl, Nat.le_of_ble_eq_true rfl⟩) hS hA hP (fun r_13 H locs hw_13 hP hS => ?_)
        try dsimp only at hw_13
        refine lv_isub hx hb dX1_giveDoor_63 ?_
        refine lv_topi (fun x_14 ex_14 => ?_)
        refine lv_istore (lv' := [(5, .int x_14), (4, .int (nI cn2_3)), (3, .int (nI sx_1)), (0, .ref z0), (1, .int (nI i)), (2, .int (nI se))]) hx hb dX1_giveDoor_64 hl (by decide) rfl (fun ls hl => ?_)
        refine lv_aload_n hx hb dX1_giveDoor_66 rfl (lv_at hl 3 rfl) ?_
        refine va_get (D := D) (ci := 1) (v := .ref z3) (C := RX1) (T := TX1) (N := 8) hx hb hts inX1 hown hK hP 0 rfl rfl 3 (by decide) (hts _ tw_239) (fun _ h9 => h9) rfl dX1_giveDoor_67 ?_
        refine lv_iload_n hx hb dX1_giveDoor_70 rfl (lv_at hl 2 rfl) ?_
        refine lv_aload_n hx hb dX1_giveDoor_71 rfl (lv_at hl 3 rfl) ?_
        refine va_get (D := D) (ci := 1) (v := .ref z3) (C := RX1) (T := TX1) (N := 8) hx hb hts inX1 hown hK hP 0 rfl rfl 3 (by decide) (hts _ tw_239) (fun _ h9 => h9) rfl dX1_giveDoor_72 ?_
        refine lv_iload_n hx hb dX1_giveDoor_75 rfl (lv_at hl 2 rfl) ?_
        refine va_iald hx hb hK hP 2 1 rfl rfl (vp_in_nI (by omega) (by decide)) dX1_giveDoor_76 ?_
        refine lv_ti (y := (pg2_3 sx_1)) (by rw [nI_clamp (by omega)]) ?_
        refine lv_iload hx hb dX1_giveDoor_77 (lv_at hl 0 rfl) ?_
        refine va_mmin hx hb (by rw [hml]; exact hl.1.symm) hown (hts _ tw_909) (hts _ tw_529) (hts _ tw_93) (hts _ tw_530) (Nat.le_of_ble_eq_true rfl) (Nat.le_of_ble_eq_true rfl) (Nat.le_of_ble_eq_true rfl) (Nat.le_of_ble_eq_true rfl) dX1_giveDoor_79 ?_
        refine lv_topi (fun x_15 ex_15 => ?_)
        refine va_iast hx hb hK hP hD hS 2 1 rfl rfl (vp_in_nI (by omega) (by decide)) dX1_giveDoor_82 (fun H locs hP hD hS => ?_)
        have hQ9 := pd_mk [(z0, .inr (1, (fX1 c0 z1 z2 z3 (nI pn) pf pd pe))), (aI k z2 100 pco), (aI k z3 16 (upd pg2_3 (Int32.toNatClampNeg (nI sx_1)) x_15)), (c0, .inr (4, (fX4 c1 c2 (nI cc) (nI rz) ro sd)))] hP hD
        clear hP hD
        obtain ⟨hP, hD⟩ := hQ9
        generalize (upd pg2_3 (Int32.toNatClampNeg (nI sx_1)) x_15) = f_16 at hP hD
        refine lv_iinc (v := (nI (cn2_3 + 1))) (lv' := [(4, .int (nI (cn2_3 + 1))), (5, .int x_14), (3, .int (nI sx_1)), (0, .ref z0), (1, .int (nI i)), (2, .int (nI se))]) hx hb dX1_giveDoor_83 hl (k := 1) rfl (nI_add cn2_3 1) (by decide) rfl (fun ls hl => ?_)
        refine lv_goto (tgt := 11) hx hb dX1_giveDoor_86 (by decide) ?_
        exact ih_3 _ (cn2_3 + 1, f_16) _ _ _ (by omega) ⟨rfl, (by omega), hP, hD, hS, (lv_sub hl [0, 2, 3, 4, 5] rfl)⟩

theorem dX1_leastOfAll_0 : decode cX1_leastOfAll 0 = .ok (.iconst 1, 1) := by decide +kernel
theorem dX1_leastOfAll_1 : decode cX1_leastOfAll 1 = .ok (.aload_n 0, 1) := by decide +kernel
theorem dX1_leastOfAll_2 : decode cX1_leastOfAll 2 = .ok (.getfield 34, 3) := by decide +kernel
theorem dX1_leastOfAll_5 : decode cX1_leastOfAll 5 = .ok (.getfield 53, 3) := by decide +kernel
theorem dX1_leastOfAll_8 : decode cX1_leastOfAll 8 = .ok (.ishl, 1) := by decide +kernel
theorem dX1_leastOfAll_9 : decode cX1_leastOfAll 9 = .ok (.istore_n 1, 1) := by decide +kernel
theorem dX1_leastOfAll_10 : decode cX1_leastOfAll 10 = .ok (.iconst 0, 1) := by decide +kernel
theorem dX1_leastOfAll_11 : decode cX1_leastOfAll 11 = .ok (.istore_n 2, 1) := by decide +kernel
theorem dX1_leastOfAll_12 : decode cX1_leastOfAll 12 = .ok (.iload_n 2, 1) := by decide +kernel
theorem dX1_leastOfAll_13 : decode cX1_leastOfAll 13 = .ok (.iload_n 1, 1) := by decide +kernel
theorem dX1_leastOfAll_14 : decode cX1_leastOfAll 14 = .ok (.if_icmp .ge 53, 3) := by decide +kernel
theorem dX1_leastOfAll_17 : decode cX1_leastOfAll 17 = .ok (.aload_n 0, 1) := by decide +kernel
theorem dX1_leastOfAll_18 : decode cX1_leastOfAll 18 = .ok (.getfield 18, 3) := by decide +kernel
theorem dX1_leastOfAll_21 : decode cX1_leastOfAll 21 = .ok (.iload_n 2, 1) := by decide +kernel
theorem dX1_leastOfAll_22 : decode cX1_leastOfAll 22 = .ok (.iconst 0, 1) := by decide +kernel
theorem dX1_leastOfAll_23 : decode cX1_leastOfAll 23 = .ok (.iastore, 1) := by decide +kernel
theorem dX1_leastOfAll_24 : decode cX1_leastOfAll 24 = .ok (.iconst 0, 1) := by decide +kernel
theorem dX1_leastOfAll_25 : decode cX1_leastOfAll 25 = .ok (.istore_n 3, 1) := by decide +kernel
theorem dX1_leastOfAll_26 : decode cX1_leastOfAll 26 = .ok (.iload_n 3, 1) := by decide +kernel
theorem dX1_leastOfAll_27 : decode cX1_leastOfAll 27 = .ok (.aload_n 0, 1) := by decide +kernel
theorem dX1_leastOfAll_28 : decode cX1_leastOfAll 28 = .ok (.getfield 34, 3) := by decide +kernel
theorem dX1_leastOfAll_31 : decode cX1_leastOfAll 31 = .ok (.getfield 53, 3) := by decide +kernel
theorem dX1_leastOfAll_34 : decode cX1_leastOfAll 34 = .ok (.if_icmp .ge 27, 3) := by decide +kernel
theorem dX1_leastOfAll_37 : decode cX1_leastOfAll 37 = .ok (.aload_n 0, 1) := by decide +kernel
theorem dX1_leastOfAll_38 : decode cX1_leastOfAll 38 = .ok (.getfield 18, 3) := by decide +kernel
theorem dX1_leastOfAll_41 : decode cX1_leastOfAll 41 = .ok (.iload_n 2, 1) := by decide +kernel
theorem dX1_leastOfAll_42 : decode cX1_leastOfAll 42 = .ok (.dup2, 1) := by decide +kernel
theorem dX1_leastOfAll_43 : decode cX1_leastOfAll 43 = .ok (.iaload, 1) := by decide +kernel
theorem dX1_leastOfAll_44 : decode cX1_leastOfAll 44 = .ok (.aload_n 0, 1) := by decide +kernel
theorem dX1_leastOfAll_45 : decode cX1_leastOfAll 45 = .ok (.iload_n 3, 1) := by decide +kernel
theorem dX1_leastOfAll_46 : decode cX1_leastOfAll 46 = .ok (.aload_n 0, 1) := by decide +kernel
theorem dX1_leastOfAll_47 : decode cX1_leastOfAll 47 = .ok (.getfield 21, 3) := by decide +kernel
theorem dX1_leastOfAll_50 : decode cX1_leastOfAll 50 = .ok (.invokevirtual 70, 3) := by decide +kernel
theorem dX1_leastOfAll_53 : decode cX1_leastOfAll 53 = .ok (.iadd, 1) := by decide +kernel
theorem dX1_leastOfAll_54 : decode cX1_leastOfAll 54 = .ok (.iastore, 1) := by decide +kernel
theorem dX1_leastOfAll_55 : decode cX1_leastOfAll 55 = .ok (.iinc 3 1, 3) := by decide +kernel
theorem dX1_leastOfAll_58 : decode cX1_leastOfAll 58 = .ok (.goto (-32), 3) := by decide +kernel
theorem dX1_leastOfAll_61 : decode cX1_leastOfAll 61 = .ok (.iinc 2 1, 3) := by decide +kernel
theorem dX1_leastOfAll_64 : decode cX1_leastOfAll 64 = .ok (.goto (-52), 3) := by decide +kernel
theorem dX1_leastOfAll_67 : decode cX1_leastOfAll 67 = .ok (.iconst 0, 1) := by decide +kernel
theorem dX1_leastOfAll_68 : decode cX1_leastOfAll 68 = .ok (.istore_n 2, 1) := by decide +kernel
theorem dX1_leastOfAll_69 : decode cX1_leastOfAll 69 = .ok (.iload_n 2, 1) := by decide +kernel
theorem dX1_leastOfAll_70 : decode cX1_leastOfAll 70 = .ok (.aload_n 0, 1) := by decide +kernel
theorem dX1_leastOfAll_71 : decode cX1_leastOfAll 71 = .ok (.getfield 21, 3) := by decide +kernel
theorem dX1_leastOfAll_74 : decode cX1_leastOfAll 74 = .ok (.if_icmp .ge 26, 3) := by decide +kernel
theorem dX1_leastOfAll_77 : decode cX1_leastOfAll 77 = .ok (.aload_n 0, 1) := by decide +kernel
theorem dX1_leastOfAll_78 : decode cX1_leastOfAll 78 = .ok (.getfield 25, 3) := by decide +kernel
theorem dX1_leastOfAll_81 : decode cX1_leastOfAll 81 = .ok (.iload_n 2, 1) := by decide +kernel
theorem dX1_leastOfAll_82 : decode cX1_leastOfAll 82 = .ok (.ishr, 1) := by decide +kernel
theorem dX1_leastOfAll_83 : decode cX1_leastOfAll 83 = .ok (.iconst 1, 1) := by decide +kernel
theorem dX1_leastOfAll_84 : decode cX1_leastOfAll 84 = .ok (.iand, 1) := by decide +kernel
theorem dX1_leastOfAll_85 : decode cX1_leastOfAll 85 = .ok (.ifCond .eq 9, 3) := by decide +kernel
theorem dX1_leastOfAll_88 : decode cX1_leastOfAll 88 = .ok (.aload_n 0, 1) := by decide +kernel
theorem dX1_leastOfAll_89 : decode cX1_leastOfAll 89 = .ok (.iload_n 2, 1) := by decide +kernel
theorem dX1_leastOfAll_90 : decode cX1_leastOfAll 90 = .ok (.iload_n 1, 1) := by decide +kernel
theorem dX1_leastOfAll_91 : decode cX1_leastOfAll 91 = .ok (.invokevirtual 93, 3) := by decide +kernel
theorem dX1_leastOfAll_94 : decode cX1_leastOfAll 94 = .ok (.iinc 2 1, 3) := by decide +kernel
theorem dX1_leastOfAll_97 : decode cX1_leastOfAll 97 = .ok (.goto (-28), 3) := by decide +kernel
theorem dX1_leastOfAll_100 : decode cX1_leastOfAll 100 = .ok (.aload_n 0, 1) := by decide +kernel
theorem dX1_leastOfAll_101 : decode cX1_leastOfAll 101 = .ok (.getfield 18, 3) := by decide +kernel
theorem dX1_leastOfAll_104 : decode cX1_leastOfAll 104 = .ok (.iload_n 1, 1) := by decide +kernel
theorem dX1_leastOfAll_105 : decode cX1_leastOfAll 105 = .ok (.iconst 1, 1) := by decide +kernel
theorem dX1_leastOfAll_106 : decode cX1_leastOfAll 106 = .ok (.isub, 1) := by decide +kernel
theorem dX1_leastOfAll_107 : decode cX1_leastOfAll 107 = .ok (.iaload, 1) := by decide +kernel
theorem dX1_leastOfAll_108 : decode cX1_leastOfAll 108 = .ok (.ireturn, 1) := by decide +kernel
set_option maxHeartbeats 4000000 in
set_option maxRecDepth 100000 in
theorem x_leastOfAll (l : Launch) (D : va_G) (k : Nat → ClassId) (st : Nat → Nat) (lo : Nat) (c0 : Nat) (z0 : Nat) (z1 : Nat) (z2 : Nat) (z3 : Nat) (pn : Nat) (pf : Int32) (pd : Int32) (pe : Int32) (pco : Nat → Int32) (pg : Nat → Int32) (c1 : Nat) (c2 : Nat) (cc : Nat) (rz : Nat) (ro : Int32) (sd : Int32) (hpn : pn ≤ 24) (hcc : cc ≤ 4) : CWi l D k st lo yX1_leastOfAll cX1_leastOfAll 4 (some .int) ({ frames := 2, cells := 0, slots := 0, locals := 85 }) 0 0 [.ref z0] [(z0, .inr (1, (fX1 c0 z1 z2 z3 (nI pn) pf pd pe))), (aI k z2 100 pco), (aI k z3 16 pg), (c0, .inr (4, (fX4 c1 c2 (nI cc) (nI rz) ro sd)))] (fun (r : Int32) (pg_ : (Nat → Int32)) => True) (fun (pg_ : (Nat → Int32)) => [(z0, .inr (1, (fX1 c0 z1 z2 z3 (nI pn) pf pd pe))), (aI k z2 100 pco), (aI k z3 16 pg_), (c0, .inr (4, (fX4 c1 c2 (nI cc) (nI rz) ro sd)))]) := by
  intro sz
  refine Met.ofW (cc := cX1_leastOfAll) (maxL := 4) (ret := (some .int)) (by decide) rfl ?_
  intro p e s m args below meth c s₁ B hml hv
  obtain ⟨rfl, hsz, hlo, hP, hK, hDL, hZ⟩ := hv
  have hx := B.exec
  have hb := B.bytes
  have hr := B.returns
  have hts := WS_ts B.pre
  have hown : s.vm.findClass RX1 = some m.cls := findClass_of_methodNamed B.named
  have hlocks := B.notSynchronized
  subst hsz
  have hD := hDL.self (sz := s.heap.size)
  have hAlo := A_lo hDL hlo
  generalize hAe : va_A [(z0, .inr (1, (fX1 c0 z1 z2 z3 (nI pn) pf pd pe))), (aI k z2 100 pco), (aI k z3 16 pg), (c0, .inr (4, (fX4 c1 c2 (nI cc) (nI rz) ro sd)))] s.heap.size = A at hD hAlo ⊢
  have hA : ∀ q : Nat, s.heap.size ≤ q → A q := fun q h => by rw [← hAe]; exact Or.inr h
  have hS : va_S A s.heap s.heap [] := va_S.rf
  have hl := lv_entry ([.ref z0]) (n := 4) (Nat.le_of_ble_eq_true rfl)
  rw [lg_entry_eq]
  generalize (lg_sl ([.ref z0]) ++ List.replicate (4 - (lg_sl ([.ref z0])).length) Slot.unset).toArray = ls at hl ⊢
  have hl : lv_has ls 4 [(0, .ref z0)] := hl
  refine lv_iconst (v := 1) hx hb dX1_leastOfAll_0 (by decide) ?_
  refine lv_aload_n hx hb dX1_leastOfAll_1 rfl (lv_at hl 0 rfl) ?_
  refine va_get (D := D) (ci := 1) (v := .ref c0) (C := RX1) (T := TX1) (N := 8) hx hb hts inX1 hown hK hP 0 rfl rfl 0 (by decide) (hts _ tw_235) (fun _ h9 => h9) rfl dX1_leastOfAll_2 ?_
  refine va_get (D := D) (ci := 4) (v := .int (nI cc)) (C := RX4) (T := TX4) (N := 6) hx hb hts inX4 hown hK hP 3 rfl rfl 2 (by decide) (hts _ tw_179) (fun _ h9 => h9) rfl dX1_leastOfAll_5 ?_
  obtain ⟨pw_1, epw_1⟩ : ∃ z : Nat, z = 2 ^ (cc) := ⟨_, rfl⟩
  have hpw_1 : 1 ≤ pw_1 ∧ pw_1 ≤ 16 := by rw [epw_1]; exact pw16 (by omega)
  refine lv_ishl hx hb dX1_leastOfAll_8 ?_
  refine lv_ti (y := (nI pw_1)) (by rw [epw_1]; exact shl1 cc (by omega)) ?_
  refine lv_istore_n (lv' := [(1, .int (nI pw_1)), (0, .ref z0)]) hx hb dX1_leastOfAll_9 rfl hl (by decide) rfl (fun ls hl => ?_)
  refine lv_iconst (v := 0) hx hb dX1_leastOfAll_10 (by decide) ?_
  refine lv_istore_n (lv' := [(2, .int 0), (1, .int (nI pw_1)), (0, .ref z0)]) hx hb dX1_leastOfAll_11 rfl hl (by decide) rfl (fun ls hl => ?_)
  refine W_loop (σ := Nat × (Nat → Int32)) (fun (n_ : Nat) (x_ : Nat × (Nat → Int32)) (H : Heap) (locs : List Loc) (ls : Array Slot) => match x_ with | (sx_2, pg2_2) => n_ = 17 - sx_2 ∧ (sx_2 ≤ 16) ∧ va_P D classes [(z0, .inr (1, (fX1 c0 z1 z2 z3 (nI pn) pf pd pe))), (aI k z2 100 pco), (aI k z3 16 pg2_2), (c0, .inr (4, (fX4 c1 c2 (nI cc) (nI rz) ro sd)))] H ∧ va_D A [(z0, .inr (1, (fX1 c0 z1 z2 z3 (nI pn) pf pd pe))), (aI k z2 100 pco), (aI k z3 16 pg2_2), (c0, .inr (4, (fX4 c1 c2 (nI cc) (nI rz) ro sd)))] ∧ va_S A s.heap H locs ∧ lv_has ls 4 [(2, .int (nI sx_2)), (1, .int (nI pw_1)), (0, .ref z0)]) (fun n_2 x_2 H locs ls hI ih_2 => ?_) _ (0, pg) ⟨rfl, (by omega), hP, hD, hS, (lv_sub hl [0, 1, 2] rfl)⟩
  obtain ⟨sx_2, pg2_2⟩ := x_2
  obtain ⟨hm_2, hv_2, hP, hD, hS, hl⟩ := hI
  subst hm_2
  refine lv_iload_n hx hb dX1_leastOfAll_12 rfl (lv_at hl 0 rfl) ?_
  refine lv_iload_n hx hb dX1_leastOfAll_13 rfl (lv_at hl 1 rfl) ?_
  refine lv_icmp_ge (tgt := 67) hx hb dX1_leastOfAll_14 (by decide) (fun c_3 => ?_) (fun c_3 => ?_)
  · have c_3 := (nI_leI (a := pw_1) (b := sx_2) (by omega) (by omega)).mp c_3
    refine lv_iconst (v := 0) hx hb dX1_leastOfAll_67 (by decide) ?_
    refine lv_istore_n (lv' := [(2, .int 0), (1, .int (nI pw_1)), (0, .ref z0)]) hx hb dX1_leastOfAll_68 rfl hl (by decide) rfl (fun ls hl => ?_)
    refine W_loop (σ := Nat × (Nat → Int32)) (fun (n_ : Nat) (x_ : Nat × (Nat → Int32)) (H : Heap) (locs : List Loc) (ls : Array Slot) => match x_ with | (ii_4, pg2_4) => n_ = 25 - ii_4 ∧ (ii_4 ≤ 24) ∧ va_P D classes [(z0, .inr (1, (fX1 c0 z1 z2 z3 (nI pn) pf pd pe))), (aI k z2 100 pco), (aI k z3 16 pg2_4), (c0, .inr (4, (fX4 c1 c2 (nI cc) (nI rz) ro sd)))] H ∧ va_D A [(z0, .inr (1, (fX1 c0 z1 z2 z3 (nI pn) pf pd pe))), (aI k z2 100 pco), (aI k z3 16 pg2_4), (c0, .inr (4, (fX4 c1 c2 (nI cc) (nI rz) ro sd)))] ∧ va_S A s.heap H locs ∧ lv_has ls 4 [(2, .int (nI ii_4)), (1, .int (nI pw_1)), (0, .ref z0)]) (fun n_4 x_4 H locs ls hI ih_4 => ?_) _ (0, pg2_2) ⟨rfl, (by omega), hP, hD, hS, (lv_sub hl [0, 1, 2] rfl)⟩
    obtain ⟨ii_4, pg2_4⟩ := x_4
    obtain ⟨hm_4, hv_4, hP, hD, hS, hl⟩ := hI
    subst hm_4
    refine lv_iload_n hx hb dX1_leastOfAll_69 rfl (lv_at hl 0 rfl) ?_
    refine lv_aload_n hx hb dX1_leastOfAll_70 rfl (lv_at hl 2 rfl) ?_
    refine va_get (D := D) (ci := 1) (v := .int (nI pn)) (C := RX1) (T := TX1) (N := 8) hx hb hts inX1 hown hK hP 0 rfl rfl 4 (by decide) (hts _ tw_240) (fun _ h9 => h9) rfl dX1_leastOfAll_71 ?_
    refine lv_icmp_ge (tgt := 100) hx hb dX1_leastOfAll_74 (by decide) (fun c_5 => ?_) (fun c_5 => ?_)
    · have c_5 := (nI_leI (a := pn) (b := ii_4) (by omega) (by omega)).mp c_5
      refine lv_aload_n hx hb dX1_leastOfAll_100 rfl (lv_at hl 2 rfl) ?_
      refine va_get (D := D) (ci := 1) (v := .ref z3) (C := RX1) (T := TX1) (N := 8) hx hb hts inX1 hown hK hP 0 rfl rfl 3 (by decide) (hts _ tw_239) (fun _ h9 => h9) rfl dX1_leastOfAll_101 ?_
      refine lv_iload_n hx hb dX1_leastOfAll_104 rfl (lv_at hl 1 rfl) ?_
      refine lv_iconst (v := 1) hx hb dX1_leastOfAll_105 (by decide) ?_
      refine lv_isub hx hb dX1_leastOfAll_106 ?_
      refine lv_ti (y := (nI (pw_1 - 1))) (pk_sub (a := pw_1) (b := 1) (by omega)) ?_
      refine va_iald hx hb hK hP 2 1 rfl rfl (vp_in_nI (by omega) (by decide)) dX1_leastOfAll_107 ?_
      refine lv_ti (y := (pg2_4 (pw_1 - 1))) (by rw [nI_clamp (by omega)]) ?_
      obtain ⟨hP9, hD9⟩ := pd_sub [(z0, .inr (1, (fX1 c0 z1 z2 z3 (nI pn) pf pd pe))), (aI k z2 100 pco), (aI k z3 16 pg2_4), (c0, .inr (4, (fX4 c1 c2 (nI cc) (nI rz) ro sd)))] [0, 1, 2, 3] hP hD (by decide) rfl
      exact W.iret (v := (pg2_4 (pw_1 - 1))) hx hb hr (fun t ht hW => ⟨⟨(pg2_4 (pw_1 - 1)), pg2_4, rfl, trivial, by rw [ht]; exact hP9, hD9⟩, hS.F ht⟩) hS.2.2 dX1_leastOfAll_108
    · have c_5 : ¬ (pn ≤ ii_4) := fun h => c_5 ((nI_leI (a := pn) (b := ii_4) (by omega) (by omega)).mpr h)
      refine lv_aload_n hx hb dX1_leastOfAll_77 rfl (lv_at hl 2 rfl) ?_
      refine va_get (D := D) (ci := 1) (v := .int pf) (C := RX1) (T := TX1) (N := 8) hx hb hts inX1 hown hK hP 0 rfl rfl 5 (by decide) (hts _ tw_241) (fun _ h9 => h9) rfl dX1_leastOfAll_78 ?_
      refine lv_iload_n hx hb dX1_leastOfAll_81 rfl (lv_at hl 0 rfl) ?_
      refine lv_ishr hx hb dX1_leastOfAll_82 ?_
      refine lv_topi (fun x_6 ex_6 => ?_)
      refine lv_iconst (v := 1) hx hb dX1_leastOfAll_83 (by decide) ?_
      refine lv_iand hx hb dX1_leastOfAll_84 ?_
      refine lv_topi (fun x_7 ex_7 => ?_)
      refine lv_if_eq (tgt := 94) hx hb dX1_leastOfAll_85 (by decide) (fun c_8 => ?_) (fun c_8 => ?_)
      · refine lv_iinc (v := (nI (ii_4 + 1))) (lv' := [(2, .int (nI (ii_4 + 1))), (1, .int (nI pw_1)), (0, .ref z0)]) hx hb dX1_leastOfAll_94 hl (k := 0) rfl (nI_add ii_4 1) (by decide) rfl (fun ls hl => ?_)
        refine lv_goto (tgt := 69) hx hb dX1_leastOfAll_97 (by decide) ?_
        exact ih_4 _ (ii_4 + 1, pg2_4) _ _ _ (by omega) ⟨rfl, (by omega), hP, hD, hS, (lv_sub hl [0, 1, 2] rfl)⟩
      · refine lv_aload_n hx hb dX1_leastOfAll_88 rfl (lv_at hl 2 rfl) ?_
        refine lv_iload_n hx hb dX1_leastOfAll_89 rfl (lv_at hl 0 rfl) ?_
        refine lv_iload_n hx hb dX1_leastOfAll_90 rfl (lv_at hl 1 rfl) ?_
        refine rw_v (D := D) (wr := []) (va_runV (As := [.int (nI ii_4), .int (nI pw_1)]) (rest := []) ⟨hx, hb, hml, hown, hts⟩ ((x_giveDoor l D k st lo c0 z0 z1 z2 z3 pn pf pd pe pco pg2_4 c1 c2 cc rz ro sd ii_4 pw_1 (by first | assumption | omega) (by first | assumption | omega) (by first | assumption | omega) (by first | assumption | omega)) H.size) (cwV 2 hts (gV tw_905 tw_907 tw_25 tw_84 tw_908) rfl rfl rfl (by decide +kernel) ⟨Nat.le_of_ble_eq_true rfl, Nat.le_of_ble_eq_true rfl⟩) (pV hS hAlo hlo hP hK (va_Dlo hD hAlo) hZ [0, 1, 2, 3] (by decide) rfl (ci := 1) (q := (RX1, TX1, 8)) (q0 := 0) rfl rfl) rfl rfl hl.1 rfl (lv_room (Nat.le_of_ble_eq_true rfl)) dX1_leastOfAll_91 ⟨Nat.le_of_ble_eq_true rfl, Nat.le_of_ble_eq_true rfl⟩) hS hA hP hD [0, 1, 2, 3] [] rfl rfl (by decide) (by decide) (fun u H locs hw_9 hP hD hS => ?_)
        obtain ⟨pg__9, rfl⟩ : ∃ z, z = u := ⟨_, rfl⟩
        have hQ9 := pd_mk [(z0, .inr (1, (fX1 c0 z1 z2 z3 (nI pn) pf pd pe))), (aI k z2 100 pco), (aI k z3 16 pg__9), (c0, .inr (4, (fX4 c1 c2 (nI cc) (nI rz) ro sd)))] hP hD
        clear hP hD
        obtain ⟨hP, hD⟩ := hQ9
        try dsimp only at hw_9
        refine lv_iinc (v := (nI (ii_4 + 1))) (lv' := [(2, .int (nI (ii_4 + 1))), (1, .int (nI pw_1)), (0, .ref z0)]) hx hb dX1_leastOfAll_94 hl (k := 0) rfl (nI_add ii_4 1) (by decide) rfl (fun ls hl => ?_)
        refine lv_goto (tgt := 69) hx hb dX1_leastOfAll_97 (by decide) ?_
        exact ih_4 _ (ii_4 + 1, pg__9) _ _ _ (by omega) ⟨rfl, (by omega), hP, hD, hS, (lv_sub hl [0, 1, 2] rfl)⟩
  · have c_3 : ¬ (pw_1 ≤ sx_2) := fun h => c_3 ((nI_leI (a := pw_1) (b := sx_2) (by omega) (by omega)).mpr h)
    refine lv_aload_n hx hb dX1_leastOfAll_17 rfl (lv_at hl 2 rfl) ?_
    refine va_get (D := D) (ci := 1) (v := .ref z3) (C := RX1) (T := TX1) (N := 8) hx hb hts inX1 hown hK hP 0 rfl rfl 3 (by decide) (hts _ tw_239) (fun _ h9 => h9) rfl dX1_leastOfAll_18 ?_
    refine lv_iload_n hx hb dX1_leastOfAll_21 rfl (lv_at hl 0 rfl) ?_
    refine lv_iconst (v := 0) hx hb dX1_leastOfAll_22 (by decide) ?_
    refine va_iast hx hb hK hP hD hS 2 1 rfl rfl (vp_in_nI (by omega) (by decide)) dX1_leastOfAll_23 (fun H locs hP hD hS => ?_)
    have hQ9 := pd_mk [(z0, .inr (1, (fX1 c0 z1 z2 z3 (nI pn) pf pd pe))), (aI k z2 100 pco), (aI k z3 16 (upd pg2_2 (Int32.toNatClampNeg (nI sx_2)) 0)), (c0, .inr (4, (fX4 c1 c2 (nI cc) (nI rz) ro sd)))] hP hD
    clear hP hD
    obtain ⟨hP, hD⟩ := hQ9
    generalize (upd pg2_2 (Int32.toNatClampNeg (nI sx_2)) 0) = f_10 at hP hD
    refine lv_iconst (v := 0) hx hb dX1_leastOfAll_24 (by decide) ?_
    refine lv_istore_n (lv' := [(3, .int 0), (2, .int (nI sx_2)), (1, .int (nI pw_1)), (0, .ref z0)]) hx hb dX1_leastOfAll_25 rfl hl (by decide) rfl (fun ls hl => ?_)
    refine W_loop (σ := Nat × (Nat → Int32)) (fun (n_ : Nat) (x_ : Nat × (Nat → Int32)) (H : Heap) (locs : List Loc) (ls : Array Slot) => match x_ with | (cn2_11, pg2_11) => n_ = 5 - cn2_11 ∧ (cn2_11 ≤ 4) ∧ va_P D classes [(z0, .inr (1, (fX1 c0 z1 z2 z3 (nI pn) pf pd pe))), (aI k z2 100 pco), (aI k z3 16 pg2_11), (c0, .inr (4, (fX4 c1 c2 (nI cc) (nI rz) ro sd)))] H ∧ va_D A [(z0, .inr (1, (fX1 c0 z1 z2 z3 (nI pn) pf pd pe))), (aI k z2 100 pco), (aI k z3 16 pg2_11), (c0, .inr (4, (fX4 c1 c2 (nI cc) (nI rz) ro sd)))] ∧ va_S A s.heap H locs ∧ lv_has ls 4 [(3, .int (nI cn2_11)), (2, .int (nI sx_2)), (1, .int (nI pw_1)), (0, .ref z0)]) (fun n_11 x_11 H locs ls hI ih_11 => ?_) _ (0, f_10) ⟨rfl, (by omega), hP, hD, hS, (lv_sub hl [0, 1, 2, 3] rfl)⟩
    obtain ⟨cn2_11, pg2_11⟩ := x_11
    obtain ⟨hm_11, hv_11, hP, hD, hS, hl⟩ := hI
    subst hm_11
    refine lv_iload_n hx hb dX1_leastOfAll_26 rfl (lv_at hl 0 rfl) ?_
    refine lv_aload_n hx hb dX1_leastOfAll_27 rfl (lv_at hl 3 rfl) ?_
    refine va_get (D := D) (ci := 1) (v := .ref c0) (C := RX1) (T := TX1) (N := 8) hx hb hts inX1 hown hK hP 0 rfl rfl 0 (by decide) (hts _ tw_235) (fun _ h9 => h9) rfl dX1_leastOfAll_28 ?_
    refine va_get (D := D) (ci := 4) (v := .int (nI cc)) (C := RX4) (T := TX4) (N := 6) hx hb hts inX4 hown hK hP 3 rfl rfl 2 (by decide) (hts _ tw_179) (fun _ h9 => h9) rfl dX1_leastOfAll_31 ?_
    refine lv_icmp_ge (tgt := 61) hx hb dX1_leastOfAll_34 (by decide) (fun c_12 => ?_) (fun c_12 => ?_)
    · have c_12 := (nI_leI (a := cc) (b := cn2_11) (by omega) (by omega)).mp c_12
      refine lv_iinc (v := (nI (sx_2 + 1))) (lv' := [(2, .int (nI (sx_2 + 1))), (3, .int (nI cn2_11)), (1, .int (nI pw_1)), (0, .ref z0)]) hx hb dX1_leastOfAll_61 hl (k := 1) rfl (nI_add sx_2 1) (by decide) rfl (fun ls hl => ?_)
      refine lv_goto (tgt := 12) hx hb dX1_leastOfAll_64 (by decide) ?_
      exact ih_2 _ (sx_2 + 1, pg2_11) _ _ _ (by omega) ⟨rfl, (by omega), hP, hD, hS, (lv_sub hl [0, 2, 3] rfl)⟩
    · have c_12 : ¬ (cc ≤ cn2_11) := fun h => c_12 ((nI_leI (a := cc) (b := cn2_11) (by omega) (by omega)).mpr h)
      refine lv_aload_n hx hb dX1_leastOfAll_37 rfl (lv_at hl 3 rfl) ?_
      refine va_get (D := D) (ci := 1) (v := .ref z3) (C := RX1) (T := TX1) (N := 8) hx hb hts inX1 hown hK hP 0 rfl rfl 3 (by decide) (hts _ tw_239) (fun _ h9 => h9) rfl dX1_leastOfAll_38 ?_
      refine lv_iload_n hx hb dX1_leastOfAll_41 rfl (lv_at hl 1 rfl) ?_
      refine lv_dup2_11 hx hb dX1_leastOfAll_42 rfl rfl ?_
      refine va_iald hx hb hK hP 2 1 rfl rfl (vp_in_nI (by omega) (by decide)) dX1_leastOfAll_43 ?_
      refine lv_ti (y := (pg2_11 sx_2)) (by rw [nI_clamp (by omega)]) ?_
      refine lv_aload_n hx hb dX1_leastOfAll_44 rfl (lv_at hl 3 rfl) ?_
      refine lv_iload_n hx hb dX1_leastOfAll_45 rfl (lv_at hl 0 rfl) ?_
      refine lv_aload_n hx hb dX1_leastOfAll_46 rfl (lv_at hl 3 rfl) ?_
      refine va_get (D := D) (ci := 1) (v := .int (nI pn)) (C := RX1) (T := TX1) (N := 8) hx hb hts inX1 hown hK hP 0 rfl rfl 4 (by decide) (hts _ tw_240) (fun _ h9 => h9) rfl dX1_leastOfAll_47 ?_
      refine ro_i (D := D) (va_runV (As := [.int (nI cn2_11), .int (nI pn)]) (rest := [.int (pg2_11 sx_2), .int (nI sx_2), .ref z3]) ⟨hx, hb, hml, hown, hts⟩ ((x_costAt l D k st lo c0 z0 z1 z2 z3 pn pf pd pe pco cn2_11 pn (by first | assumption | omega) (by first | assumption | omega)) H.size) (cwV 2 hts (gV tw_866 tw_843 tw_844 tw_84 tw_845) rfl rfl rfl (by decide +kernel) ⟨Nat.le_of_ble_eq_true rfl, Nat.le_of_ble_eq_true rfl⟩) (pV hS hAlo hlo hP hK (va_Dlo hD hAlo) hZ [0, 1] (by decide) rfl (ci := 1) (q := (RX1, TX1, 8)) (q0 := 0) rfl rfl) rfl rfl hl.1 rfl (lv_room (Nat.le_of_ble_eq_true rfl)) dX1_leastOfAll_50 ⟨Nat.le_of_ble_eq_true rfl, Nat.le_of_ble_eq_true rfl⟩) hS hA hP (fun r_13 H locs hw_13 hP hS => ?_)
      try dsimp only at hw_13
      refine lv_iadd hx hb dX1_leastOfAll_53 ?_
      refine lv_topi (fun x_14 ex_14 => ?_)
      refine va_iast hx hb hK hP hD hS 2 1 rfl rfl (vp_in_nI (by omega) (by decide)) dX1_leastOfAll_54 (fun H locs hP hD hS => ?_)
      have hQ9 := pd_mk [(z0, .inr (1, (fX1 c0 z1 z2 z3 (nI pn) pf pd pe))), (aI k z2 100 pco), (aI k z3 16 (upd pg2_11 (Int32.toNatClampNeg (nI sx_2)) x_14)), (c0, .inr (4, (fX4 c1 c2 (nI cc) (nI rz) ro sd)))] hP hD
      clear hP hD
      obtain ⟨hP, hD⟩ := hQ9
      generalize (upd pg2_11 (Int32.toNatClampNeg (nI sx_2)) x_14) = f_15 at hP hD
      refine lv_iinc (v := (nI (cn2_11 + 1))) (lv' := [(3, .int (nI (cn2_11 + 1))), (2, .int (nI sx_2)), (1, .int (nI pw_1)), (0, .ref z0)]) hx hb dX1_leastOfAll_55 hl (k := 0) rfl (nI_add cn2_11 1) (by decide) rfl (fun ls hl => ?_)
      refine lv_goto (tgt := 26) hx hb dX1_leastOfAll_58 (by decide) ?_
      exact ih_11 _ (cn2_11 + 1, f_15) _ _ _ (by omega) ⟨rfl, (by omega), hP, hD, hS, (lv_sub hl [0, 1, 2, 3] rfl)⟩

theorem f_x_mendingPrice_rows : True := trivial
theorem dX1_mendingPrice_0 : decode cX1_mendingPrice 0 = .ok (.aload_n 0, 1) := by decide +kernel
theorem dX1_mendingPrice_1 : decode cX1_mendingPrice 1 = .ok (.iload_n 1, 1) := by decide +kernel
theorem dX1_mendingPrice_2 : decode cX1_mendingPrice 2 = .ok (.putfield 28, 3) := by decide +kernel
theorem dX1_mendingPrice_5 : decode cX1_mendingPrice 5 = .ok (.iconst 0, 1) := by decide +kernel
theorem dX1_mendingPrice_6 : decode cX1_mendingPrice 6 = .ok (.istore_n 2, 1) := by decide +kernel
theorem dX1_mendingPrice_7 : decode cX1_mendingPrice 7 = .ok (.iconst 0, 1) := by decide +kernel
theorem dX1_mendingPrice_8 : decode cX1_mendingPrice 8 = .ok (.istore_n 3, 1) := by decide +kernel
theorem dX1_mendingPrice_9 : decode cX1_mendingPrice 9 = .ok (.iconst 0, 1) := by decide +kernel
theorem dX1_mendingPrice_10 : decode cX1_mendingPrice 10 = .ok (.istore 4, 2) := by decide +kernel
theorem dX1_mendingPrice_12 : decode cX1_mendingPrice 12 = .ok (.iload 4, 2) := by decide +kernel
theorem dX1_mendingPrice_14 : decode cX1_mendingPrice 14 = .ok (.bipush 20, 2) := by decide +kernel
theorem dX1_mendingPrice_16 : decode cX1_mendingPrice 16 = .ok (.if_icmp .gt 73, 3) := by decide +kernel
theorem dX1_mendingPrice_19 : decode cX1_mendingPrice 19 = .ok (.aload_n 0, 1) := by decide +kernel
theorem dX1_mendingPrice_20 : decode cX1_mendingPrice 20 = .ok (.bipush 10, 2) := by decide +kernel
theorem dX1_mendingPrice_22 : decode cX1_mendingPrice 22 = .ok (.iload 4, 2) := by decide +kernel
theorem dX1_mendingPrice_24 : decode cX1_mendingPrice 24 = .ok (.imul, 1) := by decide +kernel
theorem dX1_mendingPrice_25 : decode cX1_mendingPrice 25 = .ok (.sipush 1000, 3) := by decide +kernel
theorem dX1_mendingPrice_28 : decode cX1_mendingPrice 28 = .ok (.imul, 1) := by decide +kernel
theorem dX1_mendingPrice_29 : decode cX1_mendingPrice 29 = .ok (.putfield 31, 3) := by decide +kernel
theorem dX1_mendingPrice_32 : decode cX1_mendingPrice 32 = .ok (.iconst 0, 1) := by decide +kernel
theorem dX1_mendingPrice_33 : decode cX1_mendingPrice 33 = .ok (.istore 5, 2) := by decide +kernel
theorem dX1_mendingPrice_35 : decode cX1_mendingPrice 35 = .ok (.iload 5, 2) := by decide +kernel
theorem dX1_mendingPrice_37 : decode cX1_mendingPrice 37 = .ok (.iconst 4, 1) := by decide +kernel
theorem dX1_mendingPrice_38 : decode cX1_mendingPrice 38 = .ok (.if_icmp .ge 17, 3) := by decide +kernel
theorem dX1_mendingPrice_41 : decode cX1_mendingPrice 41 = .ok (.aload_n 0, 1) := by decide +kernel
theorem dX1_mendingPrice_42 : decode cX1_mendingPrice 42 = .ok (.getfield 9, 3) := by decide +kernel
theorem dX1_mendingPrice_45 : decode cX1_mendingPrice 45 = .ok (.iload 5, 2) := by decide +kernel
theorem dX1_mendingPrice_47 : decode cX1_mendingPrice 47 = .ok (.iconst 0, 1) := by decide +kernel
theorem dX1_mendingPrice_48 : decode cX1_mendingPrice 48 = .ok (.iastore, 1) := by decide +kernel
theorem dX1_mendingPrice_49 : decode cX1_mendingPrice 49 = .ok (.iinc 5 1, 3) := by decide +kernel
theorem dX1_mendingPrice_52 : decode cX1_mendingPrice 52 = .ok (.goto (-17), 3) := by decide +kernel
theorem dX1_mendingPrice_55 : decode cX1_mendingPrice 55 = .ok (.aload_n 0, 1) := by decide +kernel
theorem dX1_mendingPrice_56 : decode cX1_mendingPrice 56 = .ok (.invokevirtual 102, 3) := by decide +kernel
theorem dX1_mendingPrice_59 : decode cX1_mendingPrice 59 = .ok (.pop, 1) := by decide +kernel
theorem dX1_mendingPrice_60 : decode cX1_mendingPrice 60 = .ok (.aload_n 0, 1) := by decide +kernel
theorem dX1_mendingPrice_61 : decode cX1_mendingPrice 61 = .ok (.invokevirtual 105, 3) := by decide +kernel
theorem dX1_mendingPrice_64 : decode cX1_mendingPrice 64 = .ok (.istore 5, 2) := by decide +kernel
theorem dX1_mendingPrice_66 : decode cX1_mendingPrice 66 = .ok (.iload 4, 2) := by decide +kernel
theorem dX1_mendingPrice_68 : decode cX1_mendingPrice 68 = .ok (.ifCond .eq 9, 3) := by decide +kernel
theorem dX1_mendingPrice_71 : decode cX1_mendingPrice 71 = .ok (.iload 5, 2) := by decide +kernel
theorem dX1_mendingPrice_73 : decode cX1_mendingPrice 73 = .ok (.iload_n 3, 1) := by decide +kernel
theorem dX1_mendingPrice_74 : decode cX1_mendingPrice 74 = .ok (.if_icmp .ge 9, 3) := by decide +kernel
theorem dX1_mendingPrice_77 : decode cX1_mendingPrice 77 = .ok (.iload 5, 2) := by decide +kernel
theorem dX1_mendingPrice_79 : decode cX1_mendingPrice 79 = .ok (.istore_n 3, 1) := by decide +kernel
theorem dX1_mendingPrice_80 : decode cX1_mendingPrice 80 = .ok (.iload 4, 2) := by decide +kernel
theorem dX1_mendingPrice_82 : decode cX1_mendingPrice 82 = .ok (.istore_n 2, 1) := by decide +kernel
theorem dX1_mendingPrice_83 : decode cX1_mendingPrice 83 = .ok (.iinc 4 1, 3) := by decide +kernel
theorem dX1_mendingPrice_86 : decode cX1_mendingPrice 86 = .ok (.goto (-74), 3) := by decide +kernel
theorem dX1_mendingPrice_89 : decode cX1_mendingPrice 89 = .ok (.iload_n 2, 1) := by decide +kernel
theorem dX1_mendingPrice_90 : decode cX1_mendingPrice 90 = .ok (.ireturn, 1) := by decide +kernel
theorem tw_8 : Cond.selects RX7 yX7_isStreet yX7_isStreet ∈ LW := LWm (i := 8) (by decide +kernel) rfl
theorem tw_9 : Cond.selects RX7 yX7_isDoor yX7_isDoor ∈ LW := LWm (i := 9) (by decide +kernel) rfl
theorem tw_10 : Cond.selects RX7 yX7_isRound yX7_isRound ∈ LW := LWm (i := 10) (by decide +kernel) rfl
theorem tw_11 : Cond.selects RX7 yX7_refuseSight yX7_refuseSight ∈ LW := LWm (i := 11) (by decide +kernel) rfl
theorem tw_18 : Cond.selects RX7 yX7_isSet yX7_isSet ∈ LW := LWm (i := 18) (by decide +kernel) rfl
theorem tw_94 : Cond.initialized RJ6 ∈ LW := LWm1 (i := 16) (by decide +kernel) rfl
theorem tw_111 : Cond.fieldLink RX7 81 "LastPlace$Text" "size" "I" ∈ LW := LWm1 (i := 33) (by decide +kernel) rfl
theorem tw_120 : Cond.fieldLink RX7 292 "LastPlace$Text" "faultNumber" "I" ∈ LW := LWm1 (i := 42) (by decide +kernel) rfl
theorem tw_122 : Cond.fieldLink RX7 289 "LastPlace$Text" "faultByte" "I" ∈ LW := LWm1 (i := 44) (by decide +kernel) rfl
theorem tw_149 : Cond.fieldLink RX7 116 "LastPlace$Street" "values" "[I" ∈ LW := LWm1 (i := 71) (by decide +kernel) rfl
theorem tw_151 : Cond.fieldLink RX7 124 "LastPlace$Street" "frees" "[I" ∈ LW := LWm1 (i := 73) (by decide +kernel) rfl
theorem tw_153 : Cond.fieldLink RX7 127 "LastPlace$Street" "prices" "[I" ∈ LW := LWm1 (i := 75) (by decide +kernel) rfl
theorem tw_180 : Cond.fieldLink RX7 214 "LastPlace$Scene" "carCount" "I" ∈ LW := LWm1 (i := 102) (by decide +kernel) rfl
theorem tw_184 : Cond.fieldLink RX7 176 "LastPlace$Scene" "rowSize" "I" ∈ LW := LWm1 (i := 106) (by decide +kernel) rfl
theorem tw_187 : Cond.fieldLink RX7 183 "LastPlace$Scene" "rowFree" "I" ∈ LW := LWm1 (i := 109) (by decide +kernel) rfl
theorem tw_269 : Cond.fieldLink RX7 155 "LastPlace$BestWay" "starts" "[I" ∈ LW := LWm1 (i := 191) (by decide +kernel) rfl
theorem tw_271 : Cond.fieldLink RX7 158 "LastPlace$BestWay" "ends" "[I" ∈ LW := LWm1 (i := 193) (by decide +kernel) rfl
theorem tw_305 : Cond.fieldLink RX7 12 "LastPlace" "text" "LLastPlace$Text;" ∈ LW := LWm1 (i := 227) (by decide +kernel) rfl
theorem tw_306 : Cond.fieldLink RX7 18 "LastPlace" "streets" "[LLastPlace$Street;" ∈ LW := LWm1 (i := 228) (by decide +kernel) rfl
theorem tw_307 : Cond.fieldLink RX7 24 "LastPlace" "ways" "[LLastPlace$BestWay;" ∈ LW := LWm1 (i := 229) (by decide +kernel) rfl
theorem tw_310 : Cond.fieldLink RX7 39 "LastPlace" "ruleCount" "I" ∈ LW := LWm1 (i := 232) (by decide +kernel) rfl
theorem tw_311 : Cond.fieldLink RX7 43 "LastPlace" "latestFault" "I" ∈ LW := LWm1 (i := 233) (by decide +kernel) rfl
theorem tw_312 : Cond.fieldLink RX7 49 "LastPlace" "now" "LLastPlace$Scene;" ∈ LW := LWm1 (i := 234) (by decide +kernel) rfl
theorem tw_315 : Cond.fieldLink RX7 64 "LastPlace" "reckoner" "LLastPlace$Reckoner;" ∈ LW := LWm1 (i := 237) (by decide +kernel) rfl
theorem tw_500 : Cond.methodLink RX7 286 yX6_failed ∈ LW := LWm2 (i := 182) (by decide +kernel) rfl
theorem tw_580 : Cond.methodLink RX7 105 yX5_doors ∈ LW := LWm3 (i := 22) (by decide +kernel) rfl
theorem tw_589 : Cond.methodLink RX7 108 yX7_isStreet ∈ LW := LWm3 (i := 31) (by decide +kernel) rfl
theorem tw_591 : Cond.instanceMethod yX7_isStreet ∈ LW := LWm3 (i := 33) (by decide +kernel) rfl
set_option maxRecDepth 100000 in theorem tw_592 : Cond.code yX7_isStreet cX7_isStreet 2 (some .boolean) ∈ LW := LWm3 (i := 34) rfl rfl
theorem tw_593 : Cond.methodLink RX7 112 yX7_isIn ∈ LW := LWm3 (i := 35) (by decide +kernel) rfl
theorem tw_594 : Cond.static yX7_isIn ∈ LW := LWm3 (i := 36) (by decide +kernel) rfl
set_option maxRecDepth 100000 in theorem tw_595 : Cond.code yX7_isIn cX7_isIn 3 (some .boolean) ∈ LW := LWm3 (i := 37) rfl rfl
theorem tw_600 : Cond.methodLink RX7 120 yX7_isDoor ∈ LW := LWm3 (i := 42) (by decide +kernel) rfl
theorem tw_602 : Cond.instanceMethod yX7_isDoor ∈ LW := LWm3 (i := 44) (by decide +kernel) rfl
set_option maxRecDepth 100000 in theorem tw_603 : Cond.code yX7_isDoor cX7_isDoor 3 (some .boolean) ∈ LW := LWm3 (i := 45) rfl rfl
theorem tw_608 : Cond.methodLink RX7 130 yX5_chanceOf ∈ LW := LWm3 (i := 50) (by decide +kernel) rfl
theorem tw_613 : Cond.methodLink RX7 134 yX7_isRound ∈ LW := LWm3 (i := 55) (by decide +kernel) rfl
theorem tw_615 : Cond.instanceMethod yX7_isRound ∈ LW := LWm3 (i := 57) (by decide +kernel) rfl
set_option maxRecDepth 100000 in theorem tw_616 : Cond.code yX7_isRound cX7_isRound 3 (some .boolean) ∈ LW := LWm3 (i := 58) rfl rfl
theorem tw_617 : Cond.methodLink RX7 137 yX5_takingOf ∈ LW := LWm3 (i := 59) (by decide +kernel) rfl
theorem tw_622 : Cond.methodLink RX7 141 yX7_refuseSight ∈ LW := LWm3 (i := 64) (by decide +kernel) rfl
theorem tw_624 : Cond.instanceMethod yX7_refuseSight ∈ LW := LWm3 (i := 66) (by decide +kernel) rfl
set_option maxRecDepth 100000 in theorem tw_625 : Cond.code yX7_refuseSight cX7_refuseSight 6 (some .int) ∈ LW := LWm3 (i := 67) rfl rfl
theorem tw_626 : Cond.methodLink RX7 283 yX5_sightsAt ∈ LW := LWm3 (i := 68) (by decide +kernel) rfl
theorem tw_627 : Cond.methodLink RX7 145 yX0_worthOf ∈ LW := LWm3 (i := 69) (by decide +kernel) rfl
theorem tw_632 : Cond.methodLink RX7 149 yX0_onwardOf ∈ LW := LWm3 (i := 74) (by decide +kernel) rfl
theorem tw_637 : Cond.methodLink RX7 152 yX0_isTaken ∈ LW := LWm3 (i := 79) (by decide +kernel) rfl
theorem tw_649 : Cond.methodLink RX7 161 yX5_garageOf ∈ LW := LWm3 (i := 91) (by decide +kernel) rfl
theorem tw_654 : Cond.methodLink RX7 165 yX0_barOf ∈ LW := LWm3 (i := 96) (by decide +kernel) rfl
theorem tw_655 : Cond.instanceMethod yX0_barOf ∈ LW := LWm3 (i := 97) (by decide +kernel) rfl
theorem tw_656 : Cond.selects RX0 yX0_barOf yX0_barOf ∈ LW := LWm3 (i := 98) (by decide +kernel) rfl
set_option maxRecDepth 100000 in theorem tw_657 : Cond.code yX0_barOf cX0_barOf 4 (some .int) ∈ LW := LWm3 (i := 99) rfl rfl
theorem tw_752 : Cond.methodLink RX7 186 yX4_sawFree ∈ LW := LWm3 (i := 194) (by decide +kernel) rfl
theorem tw_756 : Cond.methodLink RX7 189 yX0_firstWrong ∈ LW := LWm3 (i := 198) (by decide +kernel) rfl
theorem tw_757 : Cond.instanceMethod yX0_firstWrong ∈ LW := LWm3 (i := 199) (by decide +kernel) rfl
theorem tw_758 : Cond.selects RX0 yX0_firstWrong yX0_firstWrong ∈ LW := LWm3 (i := 200) (by decide +kernel) rfl
set_option maxRecDepth 100000 in theorem tw_759 : Cond.code yX0_firstWrong cX0_firstWrong 9 (some .int) ∈ LW := LWm3 (i := 201) rfl rfl
theorem tw_765 : Cond.methodLink RX7 193 yX2_thoughtOf ∈ LW := LWm3 (i := 207) (by decide +kernel) rfl
theorem tw_766 : Cond.instanceMethod yX2_thoughtOf ∈ LW := LWm3 (i := 208) (by decide +kernel) rfl
theorem tw_767 : Cond.selects RX2 yX2_thoughtOf yX2_thoughtOf ∈ LW := LWm3 (i := 209) (by decide +kernel) rfl
set_option maxRecDepth 100000 in theorem tw_768 : Cond.code yX2_thoughtOf cX2_thoughtOf 14 (some .int) ∈ LW := LWm3 (i := 210) rfl rfl
theorem tw_817 : Cond.methodLink RX7 226 yX7_isSet ∈ LW := LWm4 (i := 19) (by decide +kernel) rfl
theorem tw_819 : Cond.instanceMethod yX7_isSet ∈ LW := LWm4 (i := 21) (by decide +kernel) rfl
set_option maxRecDepth 100000 in theorem tw_820 : Cond.code yX7_isSet cX7_isSet 3 (some .boolean) ∈ LW := LWm4 (i := 22) rfl rfl
theorem tw_945 : Cond.methodLink RX7 275 yJ6_bitCount_0f7a4 ∈ LW := LWm4 (i := 147) (by decide +kernel) rfl
theorem tw_946 : Cond.static yJ6_bitCount_0f7a4 ∈ LW := LWm4 (i := 148) (by decide +kernel) rfl
set_option maxRecDepth 100000 in theorem tw_947 : Cond.code yJ6_bitCount_0f7a4 cJ6_bitCount_0f7a4 1 (some .int) ∈ LW := LWm4 (i := 149) rfl rfl
theorem dX7_isStreet_0 : decode cX7_isStreet 0 = .ok (.iload_n 1, 1) := by decide +kernel
theorem dX7_isStreet_1 : decode cX7_isStreet 1 = .ok (.ifCond .lt 24, 3) := by decide +kernel
theorem dX7_isStreet_4 : decode cX7_isStreet 4 = .ok (.iload_n 1, 1) := by decide +kernel
theorem dX7_isStreet_5 : decode cX7_isStreet 5 = .ok (.iconst 3, 1) := by decide +kernel
theorem dX7_isStreet_6 : decode cX7_isStreet 6 = .ok (.if_icmp .ge 19, 3) := by decide +kernel
theorem dX7_isStreet_9 : decode cX7_isStreet 9 = .ok (.aload_n 0, 1) := by decide +kernel
theorem dX7_isStreet_10 : decode cX7_isStreet 10 = .ok (.getfield 18, 3) := by decide +kernel
theorem dX7_isStreet_13 : decode cX7_isStreet 13 = .ok (.iload_n 1, 1) := by decide +kernel
theorem dX7_isStreet_14 : decode cX7_isStreet 14 = .ok (.aaload, 1) := by decide +kernel
theorem dX7_isStreet_15 : decode cX7_isStreet 15 = .ok (.invokevirtual 105, 3) := by decide +kernel
theorem dX7_isStreet_18 : decode cX7_isStreet 18 = .ok (.ifCond .le 7, 3) := by decide +kernel
theorem dX7_isStreet_21 : decode cX7_isStreet 21 = .ok (.iconst 1, 1) := by decide +kernel
theorem dX7_isStreet_22 : decode cX7_isStreet 22 = .ok (.goto 4, 3) := by decide +kernel
theorem dX7_isStreet_25 : decode cX7_isStreet 25 = .ok (.iconst 0, 1) := by decide +kernel
theorem dX7_isStreet_26 : decode cX7_isStreet 26 = .ok (.ireturn, 1) := by decide +kernel
set_option maxHeartbeats 4000000 in
set_option maxRecDepth 100000 in
theorem x_isStreet (l : Launch) (D : va_G) (k : Nat → ClassId) (st : Nat → Nat) (lo : Nat) (a : Nat → Nat) (rk : Nat) (lfa : Int32) (n0 : Nat) (see0 : Nat) (tm0 : Nat) (g0 : Nat → Int32) (n1 : Nat) (see1 : Nat) (tm1 : Nat) (g1 : Nat → Int32) (n2 : Nat) (see2 : Nat) (tm2 : Nat) (g2 : Nat → Int32) (pz : Int32) (hn0 : n0 ≤ 24) (hn1 : n1 ≤ 24) (hn2 : n2 ≤ 24) : CRi l D k st lo yX7_isStreet cX7_isStreet 2 (some .boolean) ({ frames := 1, cells := 0, slots := 0, locals := 20 }) [.ref (a 0), .int pz] [((a 0), .inr (7, (fX7 (a 1) (a 3) (a 19) (a 35) (a 40) (nI rk) lfa (a 53) (a 56) (a 63) (a 64) (a 68)))), ((a 3), .inl (k 3, 3, .inr (.inr (.inr (.inr (a3 (a 4) (a 9) (a 14))))))), ((a 4), .inr (5, (fX5 (a 5) (a 6) (a 7) (a 8)))), (aI k (a 5) 10 (vv n0 see0 tm0 g0)), ((a 9), .inr (5, (fX5 (a 10) (a 11) (a 12) (a 13)))), (aI k (a 10) 10 (vv n1 see1 tm1 g1)), ((a 14), .inr (5, (fX5 (a 15) (a 16) (a 17) (a 18)))), (aI k (a 15) 10 (vv n2 see2 tm2 g2))] (fun r => (r = 1 ∧ ((pz = 0 ∧ 0 < n0) ∨ (pz = 1 ∧ 0 < n1) ∨ (pz = 2 ∧ 0 < n2))) ∨ r = 0) := by
  intro sz
  refine Met.ofW (cc := cX7_isStreet) (maxL := 2) (ret := (some .boolean)) (by decide) rfl ?_
  intro p e s m args below meth c s₁ B hml hv
  obtain ⟨rfl, hsz, hlo, hP, hK, hDL, hZ⟩ := hv
  have hx := B.exec
  have hb := B.bytes
  have hr := B.returns
  have hts := WS_ts B.pre
  have hown : s.vm.findClass RX7 = some m.cls := findClass_of_methodNamed B.named
  have hlocks := B.notSynchronized
  subst hsz
  have hA : ∀ q : Nat, s.heap.size ≤ q → (fun q : Nat => s.heap.size ≤ q) q := fun _ h => h
  have hAlo : ∀ q : Nat, (fun q : Nat => s.heap.size ≤ q) q → lo ≤ q := fun q h => Nat.le_trans hlo h
  have hS : va_S (fun q : Nat => s.heap.size ≤ q) s.heap s.heap [] := va_S.rf
  have hl := lv_entry ([.ref (a 0), .int pz]) (n := 2) (Nat.le_of_ble_eq_true rfl)
  rw [lg_entry_eq]
  generalize (lg_sl ([.ref (a 0), .int pz]) ++ List.replicate (2 - (lg_sl ([.ref (a 0), .int pz])).length) Slot.unset).toArray = ls at hl ⊢
  have hl : lv_has ls 2 [(0, .ref (a 0)), (1, .int pz)] := hl
  refine lv_iload_n hx hb dX7_isStreet_0 rfl (lv_at hl 1 rfl) ?_
  refine lv_if_lt (tgt := 25) hx hb dX7_isStreet_1 (by decide) (fun c_1 => ?_) (fun c_1 => ?_)
  · refine lv_iconst (v := 0) hx hb dX7_isStreet_25 (by decide) ?_
    exact W.zret (v := 0) (ty := .boolean) hx hb hr rfl (fun t ht hW => ⟨⟨0, (), rfl, .inr rfl, trivial⟩, hS.F ht⟩) hS.2.2 dX7_isStreet_26
  · refine lv_iload_n hx hb dX7_isStreet_4 rfl (lv_at hl 1 rfl) ?_
    refine lv_iconst (v := 3) hx hb dX7_isStreet_5 (by decide) ?_
    refine lv_icmp_ge (tgt := 25) hx hb dX7_isStreet_6 (by decide) (fun c_2 => ?_) (fun c_2 => ?_)
    · refine lv_iconst (v := 0) hx hb dX7_isStreet_25 (by decide) ?_
      exact W.zret (v := 0) (ty := .boolean) hx hb hr rfl (fun t ht hW => ⟨⟨0, (), rfl, .inr rfl, trivial⟩, hS.F ht⟩) hS.2.2 dX7_isStreet_26
    · rcases xspl3 c_1 c_2 with rfl | rfl | rfl
      · refine lv_aload_n hx hb dX7_isStreet_9 rfl (lv_at hl 0 rfl) ?_
        refine va_get (D := D) (ci := 7) (v := .ref (a 3)) (C := RX7) (T := TX7) (N := 12) hx hb hts inX7 hown hK hP 0 rfl rfl 1 (by decide) (hts _ tw_306) (fun _ h9 => h9) rfl dX7_isStreet_10 ?_
        refine lv_iload_n hx hb dX7_isStreet_13 rfl (lv_at hl 1 rfl) ?_
        refine va_aldq hx hb hK hP 1 3 rfl rfl (by unfold vp_in; decide) dX7_isStreet_14 ?_
        refine lv_tr (y := .ref (a 4)) rfl ?_
        refine ro_i (D := D) (va_runV (As := []) (rest := []) ⟨hx, hb, hml, hown, hts⟩ ((x_doors l D k st lo (a 4) (a 5) (a 6) (a 7) (a 8) n0 see0 tm0 g0) s.heap.size) (cwV 0 hts (gV tw_580 tw_478 tw_479 tw_81 tw_480) rfl rfl rfl (by decide +kernel) ⟨Nat.le_of_ble_eq_true rfl, Nat.le_of_ble_eq_true rfl⟩) (pV hS hAlo hlo hP hK hDL hZ [2, 3] (by decide) rfl (ci := 5) (q := (RX5, TX5, 4)) (q0 := 0) rfl rfl) rfl rfl hl.1 rfl (lv_room (Nat.le_of_ble_eq_true rfl)) dX7_isStreet_15 ⟨Nat.le_of_ble_eq_true rfl, Nat.le_of_ble_eq_true rfl⟩) hS hA hP (fun r_3 H locs hw_3 hP hS => ?_)
        try dsimp only at hw_3
        subst hw_3
        refine lv_if_le (tgt := 25) hx hb dX7_isStreet_18 (by decide) (fun c_4 => ?_) (fun c_4 => ?_)
        · have c_4 := (nI_leI (a := n0) (b := 0) (by omega) (by omega)).mp c_4
          refine lv_iconst (v := 0) hx hb dX7_isStreet_25 (by decide) ?_
          exact W.zret (v := 0) (ty := .boolean) hx hb hr rfl (fun t ht hW => ⟨⟨0, (), rfl, .inr rfl, trivial⟩, hS.F ht⟩) hS.2.2 dX7_isStreet_26
        · have c_4 : ¬ (n0 ≤ 0) := fun h => c_4 ((nI_leI (a := n0) (b := 0) (by omega) (by omega)).mpr h)
          refine lv_iconst (v := 1) hx hb dX7_isStreet_21 (by decide) ?_
          refine lv_goto (tgt := 26) hx hb dX7_isStreet_22 (by decide) ?_
          exact W.zret (v := 1) (ty := .boolean) hx hb hr rfl (fun t ht hW => ⟨⟨1, (), rfl, .inl ⟨rfl, .inl ⟨rfl, by omega⟩⟩, trivial⟩, hS.F ht⟩) hS.2.2 dX7_isStreet_26
      · refine lv_aload_n hx hb dX7_isStreet_9 rfl (lv_at hl 0 rfl) ?_
        refine va_get (D := D) (ci := 7) (v := .ref (a 3)) (C := RX7) (T := TX7) (N := 12) hx hb hts inX7 hown hK hP 0 rfl rfl 1 (by decide) (hts _ tw_306) (fun _ h9 => h9) rfl dX7_isStreet_10 ?_
        refine lv_iload_n hx hb dX7_isStreet_13 rfl (lv_at hl 1 rfl) ?_
        refine va_aldq hx hb hK hP 1 3 rfl rfl (by unfold vp_in; decide) dX7_isStreet_14 ?_
        refine lv_tr (y := .ref (a 9)) rfl ?_
        refine ro_i (D := D) (va_runV (As := []) (rest := []) ⟨hx, hb, hml, hown, hts⟩ ((x_doors l D k st lo (a 9) (a 10) (a 11) (a 12) (a 13) n1 see1 tm1 g1) s.heap.size) (cwV 0 hts (gV tw_580 tw_478 tw_479 tw_81 tw_480) rfl rfl rfl (by decide +kernel) ⟨Nat.le_of_ble_eq_true rfl, Nat.le_of_ble_eq_true rfl⟩) (pV hS hAlo hlo hP hK hDL hZ [4, 5] (by decide) rfl (ci := 5) (q := (RX5, TX5, 4)) (q0 := 0) rfl rfl) rfl rfl hl.1 rfl (lv_room (Nat.le_of_ble_eq_true rfl)) dX7_isStreet_15 ⟨Nat.le_of_ble_eq_true rfl, Nat.le_of_ble_eq_true rfl⟩) hS hA hP (fun r_5 H locs hw_5 hP hS => ?_)
        try dsimp only at hw_5
        subst hw_5
        refine lv_if_le (tgt := 25) hx hb dX7_isStreet_18 (by decide) (fun c_6 => ?_) (fun c_6 => ?_)
        · have c_6 := (nI_leI (a := n1) (b := 0) (by omega) (by omega)).mp c_6
          refine lv_iconst (v := 0) hx hb dX7_isStreet_25 (by decide) ?_
          exact W.zret (v := 0) (ty := .boolean) hx hb hr rfl (fun t ht hW => ⟨⟨0, (), rfl, .inr rfl, trivial⟩, hS.F ht⟩) hS.2.2 dX7_isStreet_26
        · have c_6 : ¬ (n1 ≤ 0) := fun h => c_6 ((nI_leI (a := n1) (b := 0) (by omega) (by omega)).mpr h)
          refine lv_iconst (v := 1) hx hb dX7_isStreet_21 (by decide) ?_
          refine lv_goto (tgt := 26) hx hb dX7_isStreet_22 (by decide) ?_
          exact W.zret (v := 1) (ty := .boolean) hx hb hr rfl (fun t ht hW => ⟨⟨1, (), rfl, .inl ⟨rfl, .inr (.inl ⟨rfl, by omega⟩)⟩, trivial⟩, hS.F ht⟩) hS.2.2 dX7_isStreet_26
      · refine lv_aload_n hx hb dX7_isStreet_9 rfl (lv_at hl 0 rfl) ?_
        refine va_get (D := D) (ci := 7) (v := .ref (a 3)) (C := RX7) (T := TX7) (N := 12) hx hb hts inX7 hown hK hP 0 rfl rfl 1 (by decide) (hts _ tw_306) (fun _ h9 => h9) rfl dX7_isStreet_10 ?_
        refine lv_iload_n hx hb dX7_isStreet_13 rfl (lv_at hl 1 rfl) ?_
        refine va_aldq hx hb hK hP 1 3 rfl rfl (by unfold vp_in; decide) dX7_isStreet_14 ?_
        refine lv_tr (y := .ref (a 14)) rfl ?_
        refine ro_i (D := D) (va_runV (As := []) (rest := []) ⟨hx, hb, hml, hown, hts⟩ ((x_doors l D k st lo (a 14) (a 15) (a 16) (a 17) (a 18) n2 see2 tm2 g2) s.heap.size) (cwV 0 hts (gV tw_580 tw_478 tw_479 tw_81 tw_480) rfl rfl rfl (by decide +kernel) ⟨Nat.le_of_ble_eq_true rfl, Nat.le_of_ble_eq_true rfl⟩) (pV hS hAlo hlo hP hK hDL hZ [6, 7] (by decide) rfl (ci := 5) (q := (RX5, TX5, 4)) (q0 := 0) rfl rfl) rfl rfl hl.1 rfl (lv_room (Nat.le_of_ble_eq_true rfl)) dX7_isStreet_15 ⟨Nat.le_of_ble_eq_true rfl, Nat.le_of_ble_eq_true rfl⟩) hS hA hP (fun r_7 H locs hw_7 hP hS => ?_)
        try dsimp only at hw_7
        subst hw_7
        refine lv_if_le (tgt := 25) hx hb dX7_isStreet_18 (by decide) (fun c_8 => ?_) (fun c_8 => ?_)
        · have c_8 := (nI_leI (a := n2) (b := 0) (by omega) (by omega)).mp c_8
          refine lv_iconst (v := 0) hx hb dX7_isStreet_25 (by decide) ?_
          exact W.zret (v := 0) (ty := .boolean) hx hb hr rfl (fun t ht hW => ⟨⟨0, (), rfl, .inr rfl, trivial⟩, hS.F ht⟩) hS.2.2 dX7_isStreet_26
        · have c_8 : ¬ (n2 ≤ 0) := fun h => c_8 ((nI_leI (a := n2) (b := 0) (by omega) (by omega)).mpr h)
          refine lv_iconst (v := 1) hx hb dX7_isStreet_21 (by decide) ?_
          refine lv_goto (tgt := 26) hx hb dX7_isStreet_22 (by decide) ?_
          exact W.zret (v := 1) (ty := .boolean) hx hb hr rfl (fun t ht hW => ⟨⟨1, (), rfl, .inl ⟨rfl, .inr (.inr ⟨rfl, by omega⟩)⟩, trivial⟩, hS.F ht⟩) hS.2.2 dX7_isStreet_26

theorem f_x_isDoor_rows : True := trivial
theorem dX7_isDoor_0 : decode cX7_isDoor 0 = .ok (.aload_n 0, 1) := by decide +kernel
theorem dX7_isDoor_1 : decode cX7_isDoor 1 = .ok (.iload_n 1, 1) := by decide +kernel
theorem dX7_isDoor_2 : decode cX7_isDoor 2 = .ok (.invokevirtual 108, 3) := by decide +kernel
theorem dX7_isDoor_5 : decode cX7_isDoor 5 = .ok (.ifCond .eq 24, 3) := by decide +kernel
theorem dX7_isDoor_8 : decode cX7_isDoor 8 = .ok (.iload_n 2, 1) := by decide +kernel
theorem dX7_isDoor_9 : decode cX7_isDoor 9 = .ok (.ifCond .lt 20, 3) := by decide +kernel
theorem dX7_isDoor_12 : decode cX7_isDoor 12 = .ok (.iload_n 2, 1) := by decide +kernel
theorem dX7_isDoor_13 : decode cX7_isDoor 13 = .ok (.aload_n 0, 1) := by decide +kernel
theorem dX7_isDoor_14 : decode cX7_isDoor 14 = .ok (.getfield 18, 3) := by decide +kernel
theorem dX7_isDoor_17 : decode cX7_isDoor 17 = .ok (.iload_n 1, 1) := by decide +kernel
theorem dX7_isDoor_18 : decode cX7_isDoor 18 = .ok (.aaload, 1) := by decide +kernel
theorem dX7_isDoor_19 : decode cX7_isDoor 19 = .ok (.invokevirtual 105, 3) := by decide +kernel
theorem dX7_isDoor_22 : decode cX7_isDoor 22 = .ok (.if_icmp .ge 7, 3) := by decide +kernel
theorem dX7_isDoor_25 : decode cX7_isDoor 25 = .ok (.iconst 1, 1) := by decide +kernel
theorem dX7_isDoor_26 : decode cX7_isDoor 26 = .ok (.goto 4, 3) := by decide +kernel
theorem dX7_isDoor_29 : decode cX7_isDoor 29 = .ok (.iconst 0, 1) := by decide +kernel
theorem dX7_isDoor_30 : decode cX7_isDoor 30 = .ok (.ireturn, 1) := by decide +kernel
theorem f_x_isRound_0_rows : True := trivial
theorem dX7_isRound_0 : decode cX7_isRound 0 = .ok (.iload_n 2, 1) := by decide +kernel
theorem dX7_isRound_1 : decode cX7_isRound 1 = .ok (.iconst 0, 1) := by decide +kernel
theorem dX7_isRound_2 : decode cX7_isRound 2 = .ok (.aload_n 0, 1) := by decide +kernel
theorem dX7_isRound_3 : decode cX7_isRound 3 = .ok (.getfield 18, 3) := by decide +kernel
theorem dX7_isRound_6 : decode cX7_isRound 6 = .ok (.iload_n 1, 1) := by decide +kernel
theorem dX7_isRound_7 : decode cX7_isRound 7 = .ok (.aaload, 1) := by decide +kernel
theorem dX7_isRound_8 : decode cX7_isRound 8 = .ok (.getfield 116, 3) := by decide +kernel
theorem dX7_isRound_11 : decode cX7_isRound 11 = .ok (.bipush 8, 2) := by decide +kernel
theorem dX7_isRound_13 : decode cX7_isRound 13 = .ok (.iaload, 1) := by decide +kernel
theorem dX7_isRound_14 : decode cX7_isRound 14 = .ok (.invokestatic 112, 3) := by decide +kernel
theorem dX7_isRound_17 : decode cX7_isRound 17 = .ok (.ireturn, 1) := by decide +kernel
theorem dX7_isSet_0 : decode cX7_isSet 0 = .ok (.iload_n 2, 1) := by decide +kernel
theorem dX7_isSet_1 : decode cX7_isSet 1 = .ok (.ifCond .lt 22, 3) := by decide +kernel
theorem dX7_isSet_4 : decode cX7_isSet 4 = .ok (.iload_n 2, 1) := by decide +kernel
theorem dX7_isSet_5 : decode cX7_isSet 5 = .ok (.iconst 1, 1) := by decide +kernel
theorem dX7_isSet_6 : decode cX7_isSet 6 = .ok (.aload_n 0, 1) := by decide +kernel
theorem dX7_isSet_7 : decode cX7_isSet 7 = .ok (.getfield 18, 3) := by decide +kernel
theorem dX7_isSet_10 : decode cX7_isSet 10 = .ok (.iload_n 1, 1) := by decide +kernel
theorem dX7_isSet_11 : decode cX7_isSet 11 = .ok (.aaload, 1) := by decide +kernel
theorem dX7_isSet_12 : decode cX7_isSet 12 = .ok (.invokevirtual 105, 3) := by decide +kernel
theorem dX7_isSet_15 : decode cX7_isSet 15 = .ok (.ishl, 1) := by decide +kernel
theorem dX7_isSet_16 : decode cX7_isSet 16 = .ok (.if_icmp .ge 7, 3) := by decide +kernel
theorem dX7_isSet_19 : decode cX7_isSet 19 = .ok (.iconst 1, 1) := by decide +kernel
theorem dX7_isSet_20 : decode cX7_isSet 20 = .ok (.goto 4, 3) := by decide +kernel
theorem dX7_isSet_23 : decode cX7_isSet 23 = .ok (.iconst 0, 1) := by decide +kernel
theorem dX7_isSet_24 : decode cX7_isSet 24 = .ok (.ireturn, 1) := by decide +kernel
set_option maxHeartbeats 4000000 in
set_option maxRecDepth 100000 in
theorem x_isSet_0 (l : Launch) (D : va_G) (k : Nat → ClassId) (st : Nat → Nat) (lo : Nat) (a : Nat → Nat) (rk : Nat) (lfa : Int32) (n0 : Nat) (see0 : Nat) (tm0 : Nat) (g0 : Nat → Int32) (p1 : Int32)  : CRi l D k st lo yX7_isSet cX7_isSet 3 (some .boolean) ({ frames := 1, cells := 0, slots := 0, locals := 20 }) [.ref (a 0), .int 0, .int p1] [((a 0), .inr (7, (fX7 (a 1) (a 3) (a 19) (a 35) (a 40) (nI rk) lfa (a 53) (a 56) (a 63) (a 64) (a 68)))), ((a 3), .inl (k 3, 3, .inr (.inr (.inr (.inr (a3 (a 4) (a 9) (a 14))))))), ((a 4), .inr (5, (fX5 (a 5) (a 6) (a 7) (a 8)))), (aI k (a 5) 10 (vv n0 see0 tm0 g0))] (fun r => r = 1 ∨ r = 0) := by
  intro sz
  refine Met.ofW (cc := cX7_isSet) (maxL := 3) (ret := (some .boolean)) (by decide) rfl ?_
  intro p e s m args below meth c s₁ B hml hv
  obtain ⟨rfl, hsz, hlo, hP, hK, hDL, hZ⟩ := hv
  have hx := B.exec
  have hb := B.bytes
  have hr := B.returns
  have hts := WS_ts B.pre
  have hown : s.vm.findClass RX7 = some m.cls := findClass_of_methodNamed B.named
  have hlocks := B.notSynchronized
  subst hsz
  have hA : ∀ q : Nat, s.heap.size ≤ q → (fun q : Nat => s.heap.size ≤ q) q := fun _ h => h
  have hAlo : ∀ q : Nat, (fun q : Nat => s.heap.size ≤ q) q → lo ≤ q := fun q h => Nat.le_trans hlo h
  have hS : va_S (fun q : Nat => s.heap.size ≤ q) s.heap s.heap [] := va_S.rf
  have hl := lv_entry ([.ref (a 0), .int 0, .int p1]) (n := 3) (Nat.le_of_ble_eq_true rfl)
  rw [lg_entry_eq]
  generalize (lg_sl ([.ref (a 0), .int 0, .int p1]) ++ List.replicate (3 - (lg_sl ([.ref (a 0), .int 0, .int p1])).length) Slot.unset).toArray = ls at hl ⊢
  have hl : lv_has ls 3 [(0, .ref (a 0)), (1, .int 0), (2, .int p1)] := hl
  refine lv_iload_n hx hb dX7_isSet_0 rfl (lv_at hl 2 rfl) ?_
  refine lv_if_lt (tgt := 23) hx hb dX7_isSet_1 (by decide) (fun c_1 => ?_) (fun c_1 => ?_)
  · refine lv_iconst (v := 0) hx hb dX7_isSet_23 (by decide) ?_
    exact W.zret (v := 0) (ty := .boolean) hx hb hr rfl (fun t ht hW => ⟨⟨0, (), rfl, .inr rfl, trivial⟩, hS.F ht⟩) hS.2.2 dX7_isSet_24
  · refine lv_iload_n hx hb dX7_isSet_4 rfl (lv_at hl 2 rfl) ?_
    refine lv_iconst (v := 1) hx hb dX7_isSet_5 (by decide) ?_
    refine lv_aload_n hx hb dX7_isSet_6 rfl (lv_at hl 0 rfl) ?_
    refine va_get (D := D) (ci := 7) (v := .ref (a 3)) (C := RX7) (T := TX7) (N := 12) hx hb hts inX7 hown hK hP 0 rfl rfl 1 (by decide) (hts _ tw_306) (fun _ h9 => h9) rfl dX7_isSet_7 ?_
    refine lv_iload_n hx hb dX7_isSet_10 rfl (lv_at hl 1 rfl) ?_
    refine va_aldq hx hb hK hP 1 3 rfl rfl (by unfold vp_in; decide) dX7_isSet_11 ?_
    refine lv_tr (y := .ref (a 4)) rfl ?_
    refine ro_i (D := D) (va_runV (As := []) (rest := [.int 1, .int p1]) ⟨hx, hb, hml, hown, hts⟩ ((x_doors l D k st lo (a 4) (a 5) (a 6) (a 7) (a 8) n0 see0 tm0 g0) s.heap.size) (cwV 0 hts (gV tw_580 tw_478 tw_479 tw_81 tw_480) rfl rfl rfl (by decide +kernel) ⟨Nat.le_of_ble_eq_true rfl, Nat.le_of_ble_eq_true rfl⟩) (pV hS hAlo hlo hP hK hDL hZ [2, 3] (by decide) rfl (ci := 5) (q := (RX5, TX5, 4)) (q0 := 0) rfl rfl) rfl rfl hl.1 rfl (lv_room (Nat.le_of_ble_eq_true rfl)) dX7_isSet_12 ⟨Nat.le_of_ble_eq_true rfl, Nat.le_of_ble_eq_true rfl⟩) hS hA hP (fun r_2 H locs hw_2 hP hS => ?_)
    try dsimp only at hw_2
    subst hw_2
    refine lv_ishl hx hb dX7_isSet_15 ?_
    refine lv_topi (fun x_3 ex_3 => ?_)
    refine lv_icmp_ge (tgt := 23) hx hb dX7_isSet_16 (by decide) (fun c_4 => ?_) (fun c_4 => ?_)
    · refine lv_iconst (v := 0) hx hb dX7_isSet_23 (by decide) ?_
      exact W.zret (v := 0) (ty := .boolean) hx hb hr rfl (fun t ht hW => ⟨⟨0, (), rfl, .inr rfl, trivial⟩, hS.F ht⟩) hS.2.2 dX7_isSet_24
    · refine lv_iconst (v := 1) hx hb dX7_isSet_19 (by decide) ?_
      refine lv_goto (tgt := 24) hx hb dX7_isSet_20 (by decide) ?_
      exact W.zret (v := 1) (ty := .boolean) hx hb hr rfl (fun t ht hW => ⟨⟨1, (), rfl, .inl rfl, trivial⟩, hS.F ht⟩) hS.2.2 dX7_isSet_24


set_option maxHeartbeats 4000000 in
set_option maxRecDepth 100000 in
theorem x_isSet_1 (l : Launch) (D : va_G) (k : Nat → ClassId) (st : Nat → Nat) (lo : Nat) (a : Nat → Nat) (rk : Nat) (lfa : Int32) (n1 : Nat) (see1 : Nat) (tm1 : Nat) (g1 : Nat → Int32) (p1 : Int32)  : CRi l D k st lo yX7_isSet cX7_isSet 3 (some .boolean) ({ frames := 1, cells := 0, slots := 0, locals := 20 }) [.ref (a 0), .int 1, .int p1] [((a 0), .inr (7, (fX7 (a 1) (a 3) (a 19) (a 35) (a 40) (nI rk) lfa (a 53) (a 56) (a 63) (a 64) (a 68)))), ((a 3), .inl (k 3, 3, .inr (.inr (.inr (.inr (a3 (a 4) (a 9) (a 14))))))), ((a 9), .inr (5, (fX5 (a 10) (a 11) (a 12) (a 13)))), (aI k (a 10) 10 (vv n1 see1 tm1 g1))] (fun r => r = 1 ∨ r = 0) := by
  intro sz
  refine Met.ofW (cc := cX7_isSet) (maxL := 3) (ret := (some .boolean)) (by decide) rfl ?_
  intro p e s m args below meth c s₁ B hml hv
  obtain ⟨rfl, hsz, hlo, hP, hK, hDL, hZ⟩ := hv
  have hx := B.exec
  have hb := B.bytes
  have hr := B.returns
  have hts := WS_ts B.pre
  have hown : s.vm.findClass RX7 = some m.cls := findClass_of_methodNamed B.named
  have hlocks := B.notSynchronized
  subst hsz
  have hA : ∀ q : Nat, s.heap.size ≤ q → (fun q : Nat => s.heap.size ≤ q) q := fun _ h => h
  have hAlo : ∀ q : Nat, (fun q : Nat => s.heap.size ≤ q) q → lo ≤ q := fun q h => Nat.le_trans hlo h
  have hS : va_S (fun q : Nat => s.heap.size ≤ q) s.heap s.heap [] := va_S.rf
  have hl := lv_entry ([.ref (a 0), .int 1, .int p1]) (n := 3) (Nat.le_of_ble_eq_true rfl)
  rw [lg_entry_eq]
  generalize (lg_sl ([.ref (a 0), .int 1, .int p1]) ++ List.replicate (3 - (lg_sl ([.ref (a 0), .int 1, .int p1])).length) Slot.unset).toArray = ls at hl ⊢
  have hl : lv_has ls 3 [(0, .ref (a 0)), (1, .int 1), (2, .int p1)] := hl
  refine lv_iload_n hx hb dX7_isSet_0 rfl (lv_at hl 2 rfl) ?_
  refine lv_if_lt (tgt := 23) hx hb dX7_isSet_1 (by decide) (fun c_1 => ?_) (fun c_1 => ?_)
  · refine lv_iconst (v := 0) hx hb dX7_isSet_23 (by decide) ?_
    exact W.zret (v := 0) (ty := .boolean) hx hb hr rfl (fun t ht hW => ⟨⟨0, (), rfl, .inr rfl, trivial⟩, hS.F ht⟩) hS.2.2 dX7_isSet_24
  · refine lv_iload_n hx hb dX7_isSet_4 rfl (lv_at hl 2 rfl) ?_
    refine lv_iconst (v := 1) hx hb dX7_isSet_5 (by decide) ?_
    refine lv_aload_n hx hb dX7_isSet_6 rfl (lv_at hl 0 rfl) ?_
    refine va_get (D := D) (ci := 7) (v := .ref (a 3)) (C := RX7) (T := TX7) (N := 12) hx hb hts inX7 hown hK hP 0 rfl rfl 1 (by decide) (hts _ tw_306) (fun _ h9 => h9) rfl dX7_isSet_7 ?_
    refine lv_iload_n hx hb dX7_isSet_10 rfl (lv_at hl 1 rfl) ?_
    refine va_aldq hx hb hK hP 1 3 rfl rfl (by unfold vp_in; decide) dX7_isSet_11 ?_
    refine lv_tr (y := .ref (a 9)) rfl ?_
    refine ro_i (D := D) (va_runV (As := []) (rest := [.int 1, .int p1]) ⟨hx, hb, hml, hown, hts⟩ ((x_doors l D k st lo (a 9) (a 10) (a 11) (a 12) (a 13) n1 see1 tm1 g1) s.heap.size) (cwV 0 hts (gV tw_580 tw_478 tw_479 tw_81 tw_480) rfl rfl rfl (by decide +kernel) ⟨Nat.le_of_ble_eq_true rfl, Nat.le_of_ble_eq_true rfl⟩) (pV hS hAlo hlo hP hK hDL hZ [2, 3] (by decide) rfl (ci := 5) (q := (RX5, TX5, 4)) (q0 := 0) rfl rfl) rfl rfl hl.1 rfl (lv_room (Nat.le_of_ble_eq_true rfl)) dX7_isSet_12 ⟨Nat.le_of_ble_eq_true rfl, Nat.le_of_ble_eq_true rfl⟩) hS hA hP (fun r_2 H locs hw_2 hP hS => ?_)
    try dsimp only at hw_2
    subst hw_2
    refine lv_ishl hx hb dX7_isSet_15 ?_
    refine lv_topi (fun x_3 ex_3 => ?_)
    refine lv_icmp_ge (tgt := 23) hx hb dX7_isSet_16 (by decide) (fun c_4 => ?_) (fun c_4 => ?_)
    · refine lv_iconst (v := 0) hx hb dX7_isSet_23 (by decide) ?_
      exact W.zret (v := 0) (ty := .boolean) hx hb hr rfl (fun t ht hW => ⟨⟨0, (), rfl, .inr rfl, trivial⟩, hS.F ht⟩) hS.2.2 dX7_isSet_24
    · refine lv_iconst (v := 1) hx hb dX7_isSet_19 (by decide) ?_
      refine lv_goto (tgt := 24) hx hb dX7_isSet_20 (by decide) ?_
      exact W.zret (v := 1) (ty := .boolean) hx hb hr rfl (fun t ht hW => ⟨⟨1, (), rfl, .inl rfl, trivial⟩, hS.F ht⟩) hS.2.2 dX7_isSet_24


set_option maxHeartbeats 4000000 in
set_option maxRecDepth 100000 in
theorem x_isSet_2 (l : Launch) (D : va_G) (k : Nat → ClassId) (st : Nat → Nat) (lo : Nat) (a : Nat → Nat) (rk : Nat) (lfa : Int32) (n2 : Nat) (see2 : Nat) (tm2 : Nat) (g2 : Nat → Int32) (p1 : Int32)  : CRi l D k st lo yX7_isSet cX7_isSet 3 (some .boolean) ({ frames := 1, cells := 0, slots := 0, locals := 20 }) [.ref (a 0), .int 2, .int p1] [((a 0), .inr (7, (fX7 (a 1) (a 3) (a 19) (a 35) (a 40) (nI rk) lfa (a 53) (a 56) (a 63) (a 64) (a 68)))), ((a 3), .inl (k 3, 3, .inr (.inr (.inr (.inr (a3 (a 4) (a 9) (a 14))))))), ((a 14), .inr (5, (fX5 (a 15) (a 16) (a 17) (a 18)))), (aI k (a 15) 10 (vv n2 see2 tm2 g2))] (fun r => r = 1 ∨ r = 0) := by
  intro sz
  refine Met.ofW (cc := cX7_isSet) (maxL := 3) (ret := (some .boolean)) (by decide) rfl ?_
  intro p e s m args below meth c s₁ B hml hv
  obtain ⟨rfl, hsz, hlo, hP, hK, hDL, hZ⟩ := hv
  have hx := B.exec
  have hb := B.bytes
  have hr := B.returns
  have hts := WS_ts B.pre
  have hown : s.vm.findClass RX7 = some m.cls := findClass_of_methodNamed B.named
  have hlocks := B.notSynchronized
  subst hsz
  have hA : ∀ q : Nat, s.heap.size ≤ q → (fun q : Nat => s.heap.size ≤ q) q := fun _ h => h
  have hAlo : ∀ q : Nat, (fun q : Nat => s.heap.size ≤ q) q → lo ≤ q := fun q h => Nat.le_trans hlo h
  have hS : va_S (fun q : Nat => s.heap.size ≤ q) s.heap s.heap [] := va_S.rf
  have hl := lv_entry ([.ref (a 0), .int 2, .int p1]) (n := 3) (Nat.le_of_ble_eq_true rfl)
  rw [lg_entry_eq]
  generalize (lg_sl ([.ref (a 0), .int 2, .int p1]) ++ List.replicate (3 - (lg_sl ([.ref (a 0), .int 2, .int p1])).length) Slot.unset).toArray = ls at hl ⊢
  have hl : lv_has ls 3 [(0, .ref (a 0)), (1, .int 2), (2, .int p1)] := hl
  refine lv_iload_n hx hb dX7_isSet_0 rfl (lv_at hl 2 rfl) ?_
  refine lv_if_lt (tgt := 23) hx hb dX7_isSet_1 (by decide) (fun c_1 => ?_) (fun c_1 => ?_)
  · refine lv_iconst (v := 0) hx hb dX7_isSet_23 (by decide) ?_
    exact W.zret (v := 0) (ty := .boolean) hx hb hr rfl (fun t ht hW => ⟨⟨0, (), rfl, .inr rfl, trivial⟩, hS.F ht⟩) hS.2.2 dX7_isSet_24
  · refine lv_iload_n hx hb dX7_isSet_4 rfl (lv_at hl 2 rfl) ?_
    refine lv_iconst (v := 1) hx hb dX7_isSet_5 (by decide) ?_
    refine lv_aload_n hx hb dX7_isSet_6 rfl (lv_at hl 0 rfl) ?_
    refine va_get (D := D) (ci := 7) (v := .ref (a 3)) (C := RX7) (T := TX7) (N := 12) hx hb hts inX7 hown hK hP 0 rfl rfl 1 (by decide) (hts _ tw_306) (fun _ h9 => h9) rfl dX7_isSet_7 ?_
    refine lv_iload_n hx hb dX7_isSet_10 rfl (lv_at hl 1 rfl) ?_
    refine va_aldq hx hb hK hP 1 3 rfl rfl (by unfold vp_in; decide) dX7_isSet_11 ?_
    refine lv_tr (y := .ref (a 14)) rfl ?_
    refine ro_i (D := D) (va_runV (As := []) (rest := [.int 1, .int p1]) ⟨hx, hb, hml, hown, hts⟩ ((x_doors l D k st lo (a 14) (a 15) (a 16) (a 17) (a 18) n2 see2 tm2 g2) s.heap.size) (cwV 0 hts (gV tw_580 tw_478 tw_479 tw_81 tw_480) rfl rfl rfl (by decide +kernel) ⟨Nat.le_of_ble_eq_true rfl, Nat.le_of_ble_eq_true rfl⟩) (pV hS hAlo hlo hP hK hDL hZ [2, 3] (by decide) rfl (ci := 5) (q := (RX5, TX5, 4)) (q0 := 0) rfl rfl) rfl rfl hl.1 rfl (lv_room (Nat.le_of_ble_eq_true rfl)) dX7_isSet_12 ⟨Nat.le_of_ble_eq_true rfl, Nat.le_of_ble_eq_true rfl⟩) hS hA hP (fun r_2 H locs hw_2 hP hS => ?_)
    try dsimp only at hw_2
    subst hw_2
    refine lv_ishl hx hb dX7_isSet_15 ?_
    refine lv_topi (fun x_3 ex_3 => ?_)
    refine lv_icmp_ge (tgt := 23) hx hb dX7_isSet_16 (by decide) (fun c_4 => ?_) (fun c_4 => ?_)
    · refine lv_iconst (v := 0) hx hb dX7_isSet_23 (by decide) ?_
      exact W.zret (v := 0) (ty := .boolean) hx hb hr rfl (fun t ht hW => ⟨⟨0, (), rfl, .inr rfl, trivial⟩, hS.F ht⟩) hS.2.2 dX7_isSet_24
    · refine lv_iconst (v := 1) hx hb dX7_isSet_19 (by decide) ?_
      refine lv_goto (tgt := 24) hx hb dX7_isSet_20 (by decide) ?_
      exact W.zret (v := 1) (ty := .boolean) hx hb hr rfl (fun t ht hW => ⟨⟨1, (), rfl, .inl rfl, trivial⟩, hS.F ht⟩) hS.2.2 dX7_isSet_24

theorem f_x_isRule_rows : True := trivial
theorem dX7_isRule_0 : decode cX7_isRule 0 = .ok (.iload_n 1, 1) := by decide +kernel
theorem dX7_isRule_1 : decode cX7_isRule 1 = .ok (.ifCond .lt 15, 3) := by decide +kernel
theorem dX7_isRule_4 : decode cX7_isRule 4 = .ok (.iload_n 1, 1) := by decide +kernel
theorem dX7_isRule_5 : decode cX7_isRule 5 = .ok (.aload_n 0, 1) := by decide +kernel
theorem dX7_isRule_6 : decode cX7_isRule 6 = .ok (.getfield 39, 3) := by decide +kernel
theorem dX7_isRule_9 : decode cX7_isRule 9 = .ok (.if_icmp .ge 7, 3) := by decide +kernel
theorem dX7_isRule_12 : decode cX7_isRule 12 = .ok (.iconst 1, 1) := by decide +kernel
theorem dX7_isRule_13 : decode cX7_isRule 13 = .ok (.goto 4, 3) := by decide +kernel
theorem dX7_isRule_16 : decode cX7_isRule 16 = .ok (.iconst 0, 1) := by decide +kernel
theorem dX7_isRule_17 : decode cX7_isRule 17 = .ok (.ireturn, 1) := by decide +kernel
theorem dX7_isCar_0 : decode cX7_isCar 0 = .ok (.iload_n 1, 1) := by decide +kernel
theorem dX7_isCar_1 : decode cX7_isCar 1 = .ok (.ifCond .lt 18, 3) := by decide +kernel
theorem dX7_isCar_4 : decode cX7_isCar 4 = .ok (.iload_n 1, 1) := by decide +kernel
theorem dX7_isCar_5 : decode cX7_isCar 5 = .ok (.aload_n 0, 1) := by decide +kernel
theorem dX7_isCar_6 : decode cX7_isCar 6 = .ok (.getfield 49, 3) := by decide +kernel
theorem dX7_isCar_9 : decode cX7_isCar 9 = .ok (.getfield 214, 3) := by decide +kernel
theorem dX7_isCar_12 : decode cX7_isCar 12 = .ok (.if_icmp .ge 7, 3) := by decide +kernel
theorem dX7_isCar_15 : decode cX7_isCar 15 = .ok (.iconst 1, 1) := by decide +kernel
theorem dX7_isCar_16 : decode cX7_isCar 16 = .ok (.goto 4, 3) := by decide +kernel
theorem dX7_isCar_19 : decode cX7_isCar 19 = .ok (.iconst 0, 1) := by decide +kernel
theorem dX7_isCar_20 : decode cX7_isCar 20 = .ok (.ireturn, 1) := by decide +kernel
set_option maxHeartbeats 4000000 in
set_option maxRecDepth 100000 in
theorem x_isCar (l : Launch) (D : va_G) (k : Nat → ClassId) (st : Nat → Nat) (lo : Nat) (a : Nat → Nat) (rk : Nat) (lfa : Int32) (cc : Nat) (rz : Nat) (ro : Int32) (sd : Int32) (pz : Int32) (hcc : cc ≤ 4) : CRi l D k st lo yX7_isCar cX7_isCar 2 (some .boolean) ({ frames := 0, cells := 0, slots := 0, locals := 0 }) [.ref (a 0), .int pz] [((a 0), .inr (7, (fX7 (a 1) (a 3) (a 19) (a 35) (a 40) (nI rk) lfa (a 53) (a 56) (a 63) (a 64) (a 68)))), ((a 53), .inr (4, (fX4 (a 54) (a 55) (nI cc) (nI rz) ro sd)))] (fun r => (r = 1 ∧ ∃ j : Nat, j < cc ∧ pz = nI j) ∨ r = 0) := by
  intro sz
  refine Met.ofW (cc := cX7_isCar) (maxL := 2) (ret := (some .boolean)) (by decide) rfl ?_
  intro p e s m args below meth c s₁ B hml hv
  obtain ⟨rfl, hsz, hlo, hP, hK, hDL, hZ⟩ := hv
  have hx := B.exec
  have hb := B.bytes
  have hr := B.returns
  have hts := WS_ts B.pre
  have hown : s.vm.findClass RX7 = some m.cls := findClass_of_methodNamed B.named
  have hlocks := B.notSynchronized
  subst hsz
  have hA : ∀ q : Nat, s.heap.size ≤ q → (fun q : Nat => s.heap.size ≤ q) q := fun _ h => h
  have hAlo : ∀ q : Nat, (fun q : Nat => s.heap.size ≤ q) q → lo ≤ q := fun q h => Nat.le_trans hlo h
  have hS : va_S (fun q : Nat => s.heap.size ≤ q) s.heap s.heap [] := va_S.rf
  have hl := lv_entry ([.ref (a 0), .int pz]) (n := 2) (Nat.le_of_ble_eq_true rfl)
  rw [lg_entry_eq]
  generalize (lg_sl ([.ref (a 0), .int pz]) ++ List.replicate (2 - (lg_sl ([.ref (a 0), .int pz])).length) Slot.unset).toArray = ls at hl ⊢
  have hl : lv_has ls 2 [(0, .ref (a 0)), (1, .int pz)] := hl
  refine lv_iload_n hx hb dX7_isCar_0 rfl (lv_at hl 1 rfl) ?_
  refine lv_if_lt (tgt := 19) hx hb dX7_isCar_1 (by decide) (fun c_1 => ?_) (fun c_1 => ?_)
  · refine lv_iconst (v := 0) hx hb dX7_isCar_19 (by decide) ?_
    exact W.zret (v := 0) (ty := .boolean) hx hb hr rfl (fun t ht hW => ⟨⟨0, (), rfl, .inr rfl, trivial⟩, hS.F ht⟩) hS.2.2 dX7_isCar_20
  · obtain ⟨i_9, hi_9, rfl⟩ := nI_of c_1
    refine lv_iload_n hx hb dX7_isCar_4 rfl (lv_at hl 1 rfl) ?_
    refine lv_aload_n hx hb dX7_isCar_5 rfl (lv_at hl 0 rfl) ?_
    refine va_get (D := D) (ci := 7) (v := .ref (a 53)) (C := RX7) (T := TX7) (N := 12) hx hb hts inX7 hown hK hP 0 rfl rfl 7 (by decide) (hts _ tw_312) (fun _ h9 => h9) rfl dX7_isCar_6 ?_
    refine va_get (D := D) (ci := 4) (v := .int (nI cc)) (C := RX4) (T := TX4) (N := 6) hx hb hts inX4 hown hK hP 1 rfl rfl 2 (by decide) (hts _ tw_180) (fun _ h9 => h9) rfl dX7_isCar_9 ?_
    refine lv_icmp_ge (tgt := 19) hx hb dX7_isCar_12 (by decide) (fun c_2 => ?_) (fun c_2 => ?_)
    · have c_2 := (nI_leI (a := cc) (b := i_9) (by omega) (by omega)).mp c_2
      refine lv_iconst (v := 0) hx hb dX7_isCar_19 (by decide) ?_
      exact W.zret (v := 0) (ty := .boolean) hx hb hr rfl (fun t ht hW => ⟨⟨0, (), rfl, .inr rfl, trivial⟩, hS.F ht⟩) hS.2.2 dX7_isCar_20
    · have c_2 : ¬ (cc ≤ i_9) := fun h => c_2 ((nI_leI (a := cc) (b := i_9) (by omega) (by omega)).mpr h)
      refine lv_iconst (v := 1) hx hb dX7_isCar_15 (by decide) ?_
      refine lv_goto (tgt := 20) hx hb dX7_isCar_16 (by decide) ?_
      exact W.zret (v := 1) (ty := .boolean) hx hb hr rfl (fun t ht hW => ⟨⟨1, (), rfl, .inl ⟨rfl, i_9, by omega, rfl⟩, trivial⟩, hS.F ht⟩) hS.2.2 dX7_isCar_20

theorem f_x_refuseSight_rows : True := trivial
theorem dX7_refuseSight_0 : decode cX7_refuseSight 0 = .ok (.aload_n 0, 1) := by decide +kernel
theorem dX7_refuseSight_1 : decode cX7_refuseSight 1 = .ok (.iload_n 1, 1) := by decide +kernel
theorem dX7_refuseSight_2 : decode cX7_refuseSight 2 = .ok (.iload_n 3, 1) := by decide +kernel
theorem dX7_refuseSight_3 : decode cX7_refuseSight 3 = .ok (.invokevirtual 120, 3) := by decide +kernel
theorem dX7_refuseSight_6 : decode cX7_refuseSight 6 = .ok (.ifCond .ne 7, 3) := by decide +kernel
theorem dX7_refuseSight_9 : decode cX7_refuseSight 9 = .ok (.sipush (-1001), 3) := by decide +kernel
theorem dX7_refuseSight_12 : decode cX7_refuseSight 12 = .ok (.ireturn, 1) := by decide +kernel
theorem dX7_refuseSight_13 : decode cX7_refuseSight 13 = .ok (.aload_n 0, 1) := by decide +kernel
theorem dX7_refuseSight_14 : decode cX7_refuseSight 14 = .ok (.iload_n 1, 1) := by decide +kernel
theorem dX7_refuseSight_15 : decode cX7_refuseSight 15 = .ok (.iload_n 2, 1) := by decide +kernel
theorem dX7_refuseSight_16 : decode cX7_refuseSight 16 = .ok (.invokevirtual 134, 3) := by decide +kernel
theorem dX7_refuseSight_19 : decode cX7_refuseSight 19 = .ok (.ifCond .eq 27, 3) := by decide +kernel
theorem dX7_refuseSight_22 : decode cX7_refuseSight 22 = .ok (.iload 4, 2) := by decide +kernel
theorem dX7_refuseSight_24 : decode cX7_refuseSight 24 = .ok (.ifCond .lt 22, 3) := by decide +kernel
theorem dX7_refuseSight_27 : decode cX7_refuseSight 27 = .ok (.iload 4, 2) := by decide +kernel
theorem dX7_refuseSight_29 : decode cX7_refuseSight 29 = .ok (.aload_n 0, 1) := by decide +kernel
theorem dX7_refuseSight_30 : decode cX7_refuseSight 30 = .ok (.getfield 18, 3) := by decide +kernel
theorem dX7_refuseSight_33 : decode cX7_refuseSight 33 = .ok (.iload_n 1, 1) := by decide +kernel
theorem dX7_refuseSight_34 : decode cX7_refuseSight 34 = .ok (.aaload, 1) := by decide +kernel
theorem dX7_refuseSight_35 : decode cX7_refuseSight 35 = .ok (.iload_n 3, 1) := by decide +kernel
theorem dX7_refuseSight_36 : decode cX7_refuseSight 36 = .ok (.invokevirtual 283, 3) := by decide +kernel
theorem dX7_refuseSight_39 : decode cX7_refuseSight 39 = .ok (.if_icmp .ge 7, 3) := by decide +kernel
theorem dX7_refuseSight_42 : decode cX7_refuseSight 42 = .ok (.iconst 1, 1) := by decide +kernel
theorem dX7_refuseSight_43 : decode cX7_refuseSight 43 = .ok (.goto 4, 3) := by decide +kernel
theorem dX7_refuseSight_46 : decode cX7_refuseSight 46 = .ok (.iconst 0, 1) := by decide +kernel
theorem dX7_refuseSight_47 : decode cX7_refuseSight 47 = .ok (.istore 5, 2) := by decide +kernel
theorem dX7_refuseSight_49 : decode cX7_refuseSight 49 = .ok (.iload 5, 2) := by decide +kernel
theorem dX7_refuseSight_51 : decode cX7_refuseSight 51 = .ok (.ifCond .eq 7, 3) := by decide +kernel
theorem dX7_refuseSight_54 : decode cX7_refuseSight 54 = .ok (.iconst 0, 1) := by decide +kernel
theorem dX7_refuseSight_55 : decode cX7_refuseSight 55 = .ok (.goto 6, 3) := by decide +kernel
theorem dX7_refuseSight_58 : decode cX7_refuseSight 58 = .ok (.sipush (-1002), 3) := by decide +kernel
theorem dX7_refuseSight_61 : decode cX7_refuseSight 61 = .ok (.ireturn, 1) := by decide +kernel
theorem dX7_refuseSet_0 : decode cX7_refuseSet 0 = .ok (.aload_n 0, 1) := by decide +kernel
theorem dX7_refuseSet_1 : decode cX7_refuseSet 1 = .ok (.iload_n 1, 1) := by decide +kernel
theorem dX7_refuseSet_2 : decode cX7_refuseSet 2 = .ok (.invokevirtual 108, 3) := by decide +kernel
theorem dX7_refuseSet_5 : decode cX7_refuseSet 5 = .ok (.ifCond .ne 7, 3) := by decide +kernel
theorem dX7_refuseSet_8 : decode cX7_refuseSet 8 = .ok (.sipush (-1001), 3) := by decide +kernel
theorem dX7_refuseSet_11 : decode cX7_refuseSet 11 = .ok (.ireturn, 1) := by decide +kernel
theorem dX7_refuseSet_12 : decode cX7_refuseSet 12 = .ok (.aload_n 0, 1) := by decide +kernel
theorem dX7_refuseSet_13 : decode cX7_refuseSet 13 = .ok (.iload_n 1, 1) := by decide +kernel
theorem dX7_refuseSet_14 : decode cX7_refuseSet 14 = .ok (.iload_n 2, 1) := by decide +kernel
theorem dX7_refuseSet_15 : decode cX7_refuseSet 15 = .ok (.invokevirtual 226, 3) := by decide +kernel
theorem dX7_refuseSet_18 : decode cX7_refuseSet 18 = .ok (.ifCond .eq 7, 3) := by decide +kernel
theorem dX7_refuseSet_21 : decode cX7_refuseSet 21 = .ok (.iconst 0, 1) := by decide +kernel
theorem dX7_refuseSet_22 : decode cX7_refuseSet 22 = .ok (.goto 6, 3) := by decide +kernel
theorem dX7_refuseSet_25 : decode cX7_refuseSet 25 = .ok (.sipush (-1002), 3) := by decide +kernel
theorem dX7_refuseSet_28 : decode cX7_refuseSet 28 = .ok (.ireturn, 1) := by decide +kernel
set_option maxHeartbeats 4000000 in
set_option maxRecDepth 100000 in
theorem x_refuseSet (l : Launch) (D : va_G) (k : Nat → ClassId) (st : Nat → Nat) (lo : Nat) (a : Nat → Nat) (rk : Nat) (lfa : Int32) (n0 : Nat) (see0 : Nat) (tm0 : Nat) (g0 : Nat → Int32) (n1 : Nat) (see1 : Nat) (tm1 : Nat) (g1 : Nat → Int32) (n2 : Nat) (see2 : Nat) (tm2 : Nat) (g2 : Nat → Int32) (pz : Int32) (p1 : Int32) (hn0 : n0 ≤ 24) (hn1 : n1 ≤ 24) (hn2 : n2 ≤ 24) : CRi l D k st lo yX7_refuseSet cX7_refuseSet 3 (some .int) ({ frames := 2, cells := 0, slots := 0, locals := 42 }) [.ref (a 0), .int pz, .int p1] [((a 0), .inr (7, (fX7 (a 1) (a 3) (a 19) (a 35) (a 40) (nI rk) lfa (a 53) (a 56) (a 63) (a 64) (a 68)))), ((a 3), .inl (k 3, 3, .inr (.inr (.inr (.inr (a3 (a 4) (a 9) (a 14))))))), ((a 4), .inr (5, (fX5 (a 5) (a 6) (a 7) (a 8)))), (aI k (a 5) 10 (vv n0 see0 tm0 g0)), ((a 9), .inr (5, (fX5 (a 10) (a 11) (a 12) (a 13)))), (aI k (a 10) 10 (vv n1 see1 tm1 g1)), ((a 14), .inr (5, (fX5 (a 15) (a 16) (a 17) (a 18)))), (aI k (a 15) 10 (vv n2 see2 tm2 g2))] (fun r => (r = 0 ∧ (pz = 0 ∨ pz = 1 ∨ pz = 2)) ∨ r = -1001 ∨ r = -1002) := by
  intro sz
  refine Met.ofW (cc := cX7_refuseSet) (maxL := 3) (ret := (some .int)) (by decide) rfl ?_
  intro p e s m args below meth c s₁ B hml hv
  obtain ⟨rfl, hsz, hlo, hP, hK, hDL, hZ⟩ := hv
  have hx := B.exec
  have hb := B.bytes
  have hr := B.returns
  have hts := WS_ts B.pre
  have hown : s.vm.findClass RX7 = some m.cls := findClass_of_methodNamed B.named
  have hlocks := B.notSynchronized
  subst hsz
  have hA : ∀ q : Nat, s.heap.size ≤ q → (fun q : Nat => s.heap.size ≤ q) q := fun _ h => h
  have hAlo : ∀ q : Nat, (fun q : Nat => s.heap.size ≤ q) q → lo ≤ q := fun q h => Nat.le_trans hlo h
  have hS : va_S (fun q : Nat => s.heap.size ≤ q) s.heap s.heap [] := va_S.rf
  have hl := lv_entry ([.ref (a 0), .int pz, .int p1]) (n := 3) (Nat.le_of_ble_eq_true rfl)
  rw [lg_entry_eq]
  generalize (lg_sl ([.ref (a 0), .int pz, .int p1]) ++ List.replicate (3 - (lg_sl ([.ref (a 0), .int pz, .int p1])).length) Slot.unset).toArray = ls at hl ⊢
  have hl : lv_has ls 3 [(0, .ref (a 0)), (1, .int pz), (2, .int p1)] := hl
  refine lv_aload_n hx hb dX7_refuseSet_0 rfl (lv_at hl 0 rfl) ?_
  refine lv_iload_n hx hb dX7_refuseSet_1 rfl (lv_at hl 1 rfl) ?_
  refine ro_i (D := D) (va_runV (As := [.int pz]) (rest := []) ⟨hx, hb, hml, hown, hts⟩ ((x_isStreet l D k st lo a rk lfa n0 see0 tm0 g0 n1 see1 tm1 g1 n2 see2 tm2 g2 pz (by first | assumption | omega) (by first | assumption | omega) (by first | assumption | omega)) s.heap.size) (cwV 1 hts (gV tw_589 tw_591 tw_8 tw_79 tw_592) rfl rfl rfl (by decide +kernel) ⟨Nat.le_of_ble_eq_true rfl, Nat.le_of_ble_eq_true rfl⟩) (pV hS hAlo hlo hP hK hDL hZ [0, 1, 2, 3, 4, 5, 6, 7] (by decide) rfl (ci := 7) (q := (RX7, TX7, 12)) (q0 := 0) rfl rfl) rfl rfl hl.1 rfl (lv_room (Nat.le_of_ble_eq_true rfl)) dX7_refuseSet_2 ⟨Nat.le_of_ble_eq_true rfl, Nat.le_of_ble_eq_true rfl⟩) hS hA hP (fun r_1 H locs hw_1 hP hS => ?_)
  try dsimp only at hw_1
  rcases hw_1 with ⟨rfl, ⟨rfl, hw_1⟩ | ⟨rfl, hw_1⟩ | ⟨rfl, hw_1⟩⟩ | rfl
  · refine lv_if_ne (tgt := 12) hx hb dX7_refuseSet_5 (by decide) (fun _ => ?_) (fun h => absurd h (by decide))
    refine lv_aload_n hx hb dX7_refuseSet_12 rfl (lv_at hl 0 rfl) ?_
    refine lv_iload_n hx hb dX7_refuseSet_13 rfl (lv_at hl 1 rfl) ?_
    refine lv_iload_n hx hb dX7_refuseSet_14 rfl (lv_at hl 2 rfl) ?_
    refine ro_i (D := D) (va_runV (As := [.int 0, .int p1]) (rest := []) ⟨hx, hb, hml, hown, hts⟩ ((x_isSet_0 l D k st lo a rk lfa n0 see0 tm0 g0 p1) H.size) (cwV 2 hts (gV tw_817 tw_819 tw_18 tw_79 tw_820) rfl rfl rfl (by decide +kernel) ⟨Nat.le_of_ble_eq_true rfl, Nat.le_of_ble_eq_true rfl⟩) (pV hS hAlo hlo hP hK hDL hZ [0, 1, 2, 3] (by decide) rfl (ci := 7) (q := (RX7, TX7, 12)) (q0 := 0) rfl rfl) rfl rfl hl.1 rfl (lv_room (Nat.le_of_ble_eq_true rfl)) dX7_refuseSet_15 ⟨Nat.le_of_ble_eq_true rfl, Nat.le_of_ble_eq_true rfl⟩) hS hA hP (fun r_2 H locs hw_2 hP hS => ?_)
    try dsimp only at hw_2
    rcases hw_2 with rfl | rfl
    · refine lv_if_eq (tgt := 25) hx hb dX7_refuseSet_18 (by decide) (fun h => absurd h (by decide)) (fun _ => ?_)
      refine lv_iconst (v := 0) hx hb dX7_refuseSet_21 (by decide) ?_
      refine lv_goto (tgt := 28) hx hb dX7_refuseSet_22 (by decide) ?_
      exact W.iret (v := 0) hx hb hr (fun t ht hW => ⟨⟨0, (), rfl, .inl ⟨rfl, .inl rfl⟩, trivial⟩, hS.F ht⟩) hS.2.2 dX7_refuseSet_28
    · refine lv_if_eq (tgt := 25) hx hb dX7_refuseSet_18 (by decide) (fun _ => ?_) (fun h => absurd (by decide) h)
      refine lv_sipush (v := (-1002)) hx hb dX7_refuseSet_25 (by decide) ?_
      exact W.iret (v := (-1002)) hx hb hr (fun t ht hW => ⟨⟨(-1002), (), rfl, .inr (.inr rfl), trivial⟩, hS.F ht⟩) hS.2.2 dX7_refuseSet_28
  · refine lv_if_ne (tgt := 12) hx hb dX7_refuseSet_5 (by decide) (fun _ => ?_) (fun h => absurd h (by decide))
    refine lv_aload_n hx hb dX7_refuseSet_12 rfl (lv_at hl 0 rfl) ?_
    refine lv_iload_n hx hb dX7_refuseSet_13 rfl (lv_at hl 1 rfl) ?_
    refine lv_iload_n hx hb dX7_refuseSet_14 rfl (lv_at hl 2 rfl) ?_
    refine ro_i (D := D) (va_runV (As := [.int 1, .int p1]) (rest := []) ⟨hx, hb, hml, hown, hts⟩ ((x_isSet_1 l D k st lo a rk lfa n1 see1 tm1 g1 p1) H.size) (cwV 2 hts (gV tw_817 tw_819 tw_18 tw_79 tw_820) rfl rfl rfl (by decide +kernel) ⟨Nat.le_of_ble_eq_true rfl, Nat.le_of_ble_eq_true rfl⟩) (pV hS hAlo hlo hP hK hDL hZ [0, 1, 4, 5] (by decide) rfl (ci := 7) (q := (RX7, TX7, 12)) (q0 := 0) rfl rfl) rfl rfl hl.1 rfl (lv_room (Nat.le_of_ble_eq_true rfl)) dX7_refuseSet_15 ⟨Nat.le_of_ble_eq_true rfl, Nat.le_of_ble_eq_true rfl⟩) hS hA hP (fun r_3 H locs hw_3 hP hS => ?_)
    try dsimp only at hw_3
    rcases hw_3 with rfl | rfl
    · refine lv_if_eq (tgt := 25) hx hb dX7_refuseSet_18 (by decide) (fun h => absurd h (by decide)) (fun _ => ?_)
      refine lv_iconst (v := 0) hx hb dX7_refuseSet_21 (by decide) ?_
      refine lv_goto (tgt := 28) hx hb dX7_refuseSet_22 (by decide) ?_
      exact W.iret (v := 0) hx hb hr (fun t ht hW => ⟨⟨0, (), rfl, .inl ⟨rfl, .inr (.inl rfl)⟩, trivial⟩, hS.F ht⟩) hS.2.2 dX7_refuseSet_28
    · refine lv_if_eq (tgt := 25) hx hb dX7_refuseSet_18 (by decide) (fun _ => ?_) (fun h => absurd (by decide) h)
      refine lv_sipush (v := (-1002)) hx hb dX7_refuseSet_25 (by decide) ?_
      exact W.iret (v := (-1002)) hx hb hr (fun t ht hW => ⟨⟨(-1002), (), rfl, .inr (.inr rfl), trivial⟩, hS.F ht⟩) hS.2.2 dX7_refuseSet_28
  · refine lv_if_ne (tgt := 12) hx hb dX7_refuseSet_5 (by decide) (fun _ => ?_) (fun h => absurd h (by decide))
    refine lv_aload_n hx hb dX7_refuseSet_12 rfl (lv_at hl 0 rfl) ?_
    refine lv_iload_n hx hb dX7_refuseSet_13 rfl (lv_at hl 1 rfl) ?_
    refine lv_iload_n hx hb dX7_refuseSet_14 rfl (lv_at hl 2 rfl) ?_
    refine ro_i (D := D) (va_runV (As := [.int 2, .int p1]) (rest := []) ⟨hx, hb, hml, hown, hts⟩ ((x_isSet_2 l D k st lo a rk lfa n2 see2 tm2 g2 p1) H.size) (cwV 2 hts (gV tw_817 tw_819 tw_18 tw_79 tw_820) rfl rfl rfl (by decide +kernel) ⟨Nat.le_of_ble_eq_true rfl, Nat.le_of_ble_eq_true rfl⟩) (pV hS hAlo hlo hP hK hDL hZ [0, 1, 6, 7] (by decide) rfl (ci := 7) (q := (RX7, TX7, 12)) (q0 := 0) rfl rfl) rfl rfl hl.1 rfl (lv_room (Nat.le_of_ble_eq_true rfl)) dX7_refuseSet_15 ⟨Nat.le_of_ble_eq_true rfl, Nat.le_of_ble_eq_true rfl⟩) hS hA hP (fun r_4 H locs hw_4 hP hS => ?_)
    try dsimp only at hw_4
    rcases hw_4 with rfl | rfl
    · refine lv_if_eq (tgt := 25) hx hb dX7_refuseSet_18 (by decide) (fun h => absurd h (by decide)) (fun _ => ?_)
      refine lv_iconst (v := 0) hx hb dX7_refuseSet_21 (by decide) ?_
      refine lv_goto (tgt := 28) hx hb dX7_refuseSet_22 (by decide) ?_
      exact W.iret (v := 0) hx hb hr (fun t ht hW => ⟨⟨0, (), rfl, .inl ⟨rfl, .inr (.inr rfl)⟩, trivial⟩, hS.F ht⟩) hS.2.2 dX7_refuseSet_28
    · refine lv_if_eq (tgt := 25) hx hb dX7_refuseSet_18 (by decide) (fun _ => ?_) (fun h => absurd (by decide) h)
      refine lv_sipush (v := (-1002)) hx hb dX7_refuseSet_25 (by decide) ?_
      exact W.iret (v := (-1002)) hx hb hr (fun t ht hW => ⟨⟨(-1002), (), rfl, .inr (.inr rfl), trivial⟩, hS.F ht⟩) hS.2.2 dX7_refuseSet_28
  · refine lv_if_ne (tgt := 12) hx hb dX7_refuseSet_5 (by decide) (fun h => absurd (by decide) h) (fun _ => ?_)
    refine lv_sipush (v := (-1001)) hx hb dX7_refuseSet_8 (by decide) ?_
    exact W.iret (v := (-1001)) hx hb hr (fun t ht hW => ⟨⟨(-1001), (), rfl, .inr (.inl rfl), trivial⟩, hS.F ht⟩) hS.2.2 dX7_refuseSet_11

theorem f_x_closeText_rows : True := trivial
theorem dX7_closeText_0 : decode cX7_closeText 0 = .ok (.aload_n 0, 1) := by decide +kernel
theorem dX7_closeText_1 : decode cX7_closeText 1 = .ok (.getfield 12, 3) := by decide +kernel
theorem dX7_closeText_4 : decode cX7_closeText 4 = .ok (.iconst 0, 1) := by decide +kernel
theorem dX7_closeText_5 : decode cX7_closeText 5 = .ok (.putfield 81, 3) := by decide +kernel
theorem dX7_closeText_8 : decode cX7_closeText 8 = .ok (.aload_n 0, 1) := by decide +kernel
theorem dX7_closeText_9 : decode cX7_closeText 9 = .ok (.getfield 12, 3) := by decide +kernel
theorem dX7_closeText_12 : decode cX7_closeText 12 = .ok (.invokevirtual 286, 3) := by decide +kernel
theorem dX7_closeText_15 : decode cX7_closeText 15 = .ok (.ifCond .ne 10, 3) := by decide +kernel
theorem dX7_closeText_18 : decode cX7_closeText 18 = .ok (.aload_n 0, 1) := by decide +kernel
theorem dX7_closeText_19 : decode cX7_closeText 19 = .ok (.iconst (-1), 1) := by decide +kernel
theorem dX7_closeText_20 : decode cX7_closeText 20 = .ok (.putfield 43, 3) := by decide +kernel
theorem dX7_closeText_23 : decode cX7_closeText 23 = .ok (.iconst 0, 1) := by decide +kernel
theorem dX7_closeText_24 : decode cX7_closeText 24 = .ok (.ireturn, 1) := by decide +kernel
theorem dX7_closeText_25 : decode cX7_closeText 25 = .ok (.aload_n 0, 1) := by decide +kernel
theorem dX7_closeText_26 : decode cX7_closeText 26 = .ok (.aload_n 0, 1) := by decide +kernel
theorem dX7_closeText_27 : decode cX7_closeText 27 = .ok (.getfield 12, 3) := by decide +kernel
theorem dX7_closeText_30 : decode cX7_closeText 30 = .ok (.getfield 289, 3) := by decide +kernel
theorem dX7_closeText_33 : decode cX7_closeText 33 = .ok (.putfield 43, 3) := by decide +kernel
theorem dX7_closeText_36 : decode cX7_closeText 36 = .ok (.bipush (-10), 2) := by decide +kernel
theorem dX7_closeText_38 : decode cX7_closeText 38 = .ok (.aload_n 0, 1) := by decide +kernel
theorem dX7_closeText_39 : decode cX7_closeText 39 = .ok (.getfield 12, 3) := by decide +kernel
theorem dX7_closeText_42 : decode cX7_closeText 42 = .ok (.getfield 292, 3) := by decide +kernel
theorem dX7_closeText_45 : decode cX7_closeText 45 = .ok (.isub, 1) := by decide +kernel
theorem dX7_closeText_46 : decode cX7_closeText 46 = .ok (.ireturn, 1) := by decide +kernel
theorem f_x_fault_rows : True := trivial
theorem dX7_fault_0 : decode cX7_fault 0 = .ok (.aload_n 0, 1) := by decide +kernel
theorem dX7_fault_1 : decode cX7_fault 1 = .ok (.getfield 43, 3) := by decide +kernel
theorem dX7_fault_4 : decode cX7_fault 4 = .ok (.ireturn, 1) := by decide +kernel
theorem f_x_told_rows : True := trivial
theorem dX7_told_0 : decode cX7_told 0 = .ok (.aload_n 0, 1) := by decide +kernel
theorem dX7_told_1 : decode cX7_told 1 = .ok (.iload_n 1, 1) := by decide +kernel
theorem dX7_told_2 : decode cX7_told 2 = .ok (.invokevirtual 108, 3) := by decide +kernel
theorem dX7_told_5 : decode cX7_told 5 = .ok (.ifCond .ne 7, 3) := by decide +kernel
theorem dX7_told_8 : decode cX7_told 8 = .ok (.sipush (-1001), 3) := by decide +kernel
theorem dX7_told_11 : decode cX7_told 11 = .ok (.ireturn, 1) := by decide +kernel
theorem dX7_told_12 : decode cX7_told 12 = .ok (.iload_n 2, 1) := by decide +kernel
theorem dX7_told_13 : decode cX7_told 13 = .ok (.iconst 0, 1) := by decide +kernel
theorem dX7_told_14 : decode cX7_told 14 = .ok (.bipush 9, 2) := by decide +kernel
theorem dX7_told_16 : decode cX7_told 16 = .ok (.invokestatic 112, 3) := by decide +kernel
theorem dX7_told_19 : decode cX7_told 19 = .ok (.ifCond .eq 17, 3) := by decide +kernel
theorem dX7_told_22 : decode cX7_told 22 = .ok (.aload_n 0, 1) := by decide +kernel
theorem dX7_told_23 : decode cX7_told 23 = .ok (.getfield 18, 3) := by decide +kernel
theorem dX7_told_26 : decode cX7_told 26 = .ok (.iload_n 1, 1) := by decide +kernel
theorem dX7_told_27 : decode cX7_told 27 = .ok (.aaload, 1) := by decide +kernel
theorem dX7_told_28 : decode cX7_told 28 = .ok (.getfield 116, 3) := by decide +kernel
theorem dX7_told_31 : decode cX7_told 31 = .ok (.iload_n 2, 1) := by decide +kernel
theorem dX7_told_32 : decode cX7_told 32 = .ok (.iaload, 1) := by decide +kernel
theorem dX7_told_33 : decode cX7_told 33 = .ok (.goto 6, 3) := by decide +kernel
theorem dX7_told_36 : decode cX7_told 36 = .ok (.sipush (-1002), 3) := by decide +kernel
theorem dX7_told_39 : decode cX7_told 39 = .ok (.ireturn, 1) := by decide +kernel
theorem f_x_door_rows : True := trivial
theorem dX7_door_0 : decode cX7_door 0 = .ok (.aload_n 0, 1) := by decide +kernel
theorem dX7_door_1 : decode cX7_door 1 = .ok (.iload_n 1, 1) := by decide +kernel
theorem dX7_door_2 : decode cX7_door 2 = .ok (.iload_n 2, 1) := by decide +kernel
theorem dX7_door_3 : decode cX7_door 3 = .ok (.invokevirtual 120, 3) := by decide +kernel
theorem dX7_door_6 : decode cX7_door 6 = .ok (.ifCond .ne 7, 3) := by decide +kernel
theorem dX7_door_9 : decode cX7_door 9 = .ok (.sipush (-1001), 3) := by decide +kernel
theorem dX7_door_12 : decode cX7_door 12 = .ok (.ireturn, 1) := by decide +kernel
theorem dX7_door_13 : decode cX7_door 13 = .ok (.iload_n 3, 1) := by decide +kernel
theorem dX7_door_14 : decode cX7_door 14 = .ok (.iconst 0, 1) := by decide +kernel
theorem dX7_door_15 : decode cX7_door 15 = .ok (.iconst 1, 1) := by decide +kernel
theorem dX7_door_16 : decode cX7_door 16 = .ok (.invokestatic 112, 3) := by decide +kernel
theorem dX7_door_19 : decode cX7_door 19 = .ok (.ifCond .ne 7, 3) := by decide +kernel
theorem dX7_door_22 : decode cX7_door 22 = .ok (.sipush (-1002), 3) := by decide +kernel
theorem dX7_door_25 : decode cX7_door 25 = .ok (.ireturn, 1) := by decide +kernel
theorem dX7_door_26 : decode cX7_door 26 = .ok (.iload_n 3, 1) := by decide +kernel
theorem dX7_door_27 : decode cX7_door 27 = .ok (.ifCond .ne 17, 3) := by decide +kernel
theorem dX7_door_30 : decode cX7_door 30 = .ok (.aload_n 0, 1) := by decide +kernel
theorem dX7_door_31 : decode cX7_door 31 = .ok (.getfield 18, 3) := by decide +kernel
theorem dX7_door_34 : decode cX7_door 34 = .ok (.iload_n 1, 1) := by decide +kernel
theorem dX7_door_35 : decode cX7_door 35 = .ok (.aaload, 1) := by decide +kernel
theorem dX7_door_36 : decode cX7_door 36 = .ok (.getfield 124, 3) := by decide +kernel
theorem dX7_door_39 : decode cX7_door 39 = .ok (.iload_n 2, 1) := by decide +kernel
theorem dX7_door_40 : decode cX7_door 40 = .ok (.iaload, 1) := by decide +kernel
theorem dX7_door_41 : decode cX7_door 41 = .ok (.goto 14, 3) := by decide +kernel
theorem dX7_door_44 : decode cX7_door 44 = .ok (.aload_n 0, 1) := by decide +kernel
theorem dX7_door_45 : decode cX7_door 45 = .ok (.getfield 18, 3) := by decide +kernel
theorem dX7_door_48 : decode cX7_door 48 = .ok (.iload_n 1, 1) := by decide +kernel
theorem dX7_door_49 : decode cX7_door 49 = .ok (.aaload, 1) := by decide +kernel
theorem dX7_door_50 : decode cX7_door 50 = .ok (.getfield 127, 3) := by decide +kernel
theorem dX7_door_53 : decode cX7_door 53 = .ok (.iload_n 2, 1) := by decide +kernel
theorem dX7_door_54 : decode cX7_door 54 = .ok (.iaload, 1) := by decide +kernel
theorem dX7_door_55 : decode cX7_door 55 = .ok (.ireturn, 1) := by decide +kernel
theorem f_x_chance_rows : True := trivial
theorem dX7_chance_0 : decode cX7_chance 0 = .ok (.aload_n 0, 1) := by decide +kernel
theorem dX7_chance_1 : decode cX7_chance 1 = .ok (.iload_n 1, 1) := by decide +kernel
theorem dX7_chance_2 : decode cX7_chance 2 = .ok (.iload_n 2, 1) := by decide +kernel
theorem dX7_chance_3 : decode cX7_chance 3 = .ok (.invokevirtual 120, 3) := by decide +kernel
theorem dX7_chance_6 : decode cX7_chance 6 = .ok (.ifCond .eq 17, 3) := by decide +kernel
theorem dX7_chance_9 : decode cX7_chance 9 = .ok (.aload_n 0, 1) := by decide +kernel
theorem dX7_chance_10 : decode cX7_chance 10 = .ok (.getfield 18, 3) := by decide +kernel
theorem dX7_chance_13 : decode cX7_chance 13 = .ok (.iload_n 1, 1) := by decide +kernel
theorem dX7_chance_14 : decode cX7_chance 14 = .ok (.aaload, 1) := by decide +kernel
theorem dX7_chance_15 : decode cX7_chance 15 = .ok (.iload_n 2, 1) := by decide +kernel
theorem dX7_chance_16 : decode cX7_chance 16 = .ok (.iload_n 3, 1) := by decide +kernel
theorem dX7_chance_17 : decode cX7_chance 17 = .ok (.invokevirtual 130, 3) := by decide +kernel
theorem dX7_chance_20 : decode cX7_chance 20 = .ok (.goto 6, 3) := by decide +kernel
theorem dX7_chance_23 : decode cX7_chance 23 = .ok (.sipush (-1001), 3) := by decide +kernel
theorem dX7_chance_26 : decode cX7_chance 26 = .ok (.ireturn, 1) := by decide +kernel
theorem f_x_taking_rows : True := trivial
theorem dX7_taking_0 : decode cX7_taking 0 = .ok (.aload_n 0, 1) := by decide +kernel
theorem dX7_taking_1 : decode cX7_taking 1 = .ok (.iload_n 1, 1) := by decide +kernel
theorem dX7_taking_2 : decode cX7_taking 2 = .ok (.iload_n 3, 1) := by decide +kernel
theorem dX7_taking_3 : decode cX7_taking 3 = .ok (.invokevirtual 120, 3) := by decide +kernel
theorem dX7_taking_6 : decode cX7_taking 6 = .ok (.ifCond .ne 7, 3) := by decide +kernel
theorem dX7_taking_9 : decode cX7_taking 9 = .ok (.sipush (-1001), 3) := by decide +kernel
theorem dX7_taking_12 : decode cX7_taking 12 = .ok (.ireturn, 1) := by decide +kernel
theorem dX7_taking_13 : decode cX7_taking 13 = .ok (.aload_n 0, 1) := by decide +kernel
theorem dX7_taking_14 : decode cX7_taking 14 = .ok (.iload_n 1, 1) := by decide +kernel
theorem dX7_taking_15 : decode cX7_taking 15 = .ok (.iload_n 2, 1) := by decide +kernel
theorem dX7_taking_16 : decode cX7_taking 16 = .ok (.invokevirtual 134, 3) := by decide +kernel
theorem dX7_taking_19 : decode cX7_taking 19 = .ok (.ifCond .eq 17, 3) := by decide +kernel
theorem dX7_taking_22 : decode cX7_taking 22 = .ok (.aload_n 0, 1) := by decide +kernel
theorem dX7_taking_23 : decode cX7_taking 23 = .ok (.getfield 18, 3) := by decide +kernel
theorem dX7_taking_26 : decode cX7_taking 26 = .ok (.iload_n 1, 1) := by decide +kernel
theorem dX7_taking_27 : decode cX7_taking 27 = .ok (.aaload, 1) := by decide +kernel
theorem dX7_taking_28 : decode cX7_taking 28 = .ok (.iload_n 2, 1) := by decide +kernel
theorem dX7_taking_29 : decode cX7_taking 29 = .ok (.iload_n 3, 1) := by decide +kernel
theorem dX7_taking_30 : decode cX7_taking 30 = .ok (.invokevirtual 137, 3) := by decide +kernel
theorem dX7_taking_33 : decode cX7_taking 33 = .ok (.goto 6, 3) := by decide +kernel
theorem dX7_taking_36 : decode cX7_taking 36 = .ok (.sipush (-1002), 3) := by decide +kernel
theorem dX7_taking_39 : decode cX7_taking 39 = .ok (.ireturn, 1) := by decide +kernel
theorem f_x_worth_rows : True := trivial
theorem dX7_worth_0 : decode cX7_worth 0 = .ok (.aload_n 0, 1) := by decide +kernel
theorem dX7_worth_1 : decode cX7_worth 1 = .ok (.iload_n 1, 1) := by decide +kernel
theorem dX7_worth_2 : decode cX7_worth 2 = .ok (.iload_n 2, 1) := by decide +kernel
theorem dX7_worth_3 : decode cX7_worth 3 = .ok (.iload_n 3, 1) := by decide +kernel
theorem dX7_worth_4 : decode cX7_worth 4 = .ok (.iload 4, 2) := by decide +kernel
theorem dX7_worth_6 : decode cX7_worth 6 = .ok (.invokevirtual 141, 3) := by decide +kernel
theorem dX7_worth_9 : decode cX7_worth 9 = .ok (.istore 5, 2) := by decide +kernel
theorem dX7_worth_11 : decode cX7_worth 11 = .ok (.iload 5, 2) := by decide +kernel
theorem dX7_worth_13 : decode cX7_worth 13 = .ok (.ifCond .eq 8, 3) := by decide +kernel
theorem dX7_worth_16 : decode cX7_worth 16 = .ok (.iload 5, 2) := by decide +kernel
theorem dX7_worth_18 : decode cX7_worth 18 = .ok (.goto 16, 3) := by decide +kernel
theorem dX7_worth_21 : decode cX7_worth 21 = .ok (.aload_n 0, 1) := by decide +kernel
theorem dX7_worth_22 : decode cX7_worth 22 = .ok (.getfield 24, 3) := by decide +kernel
theorem dX7_worth_25 : decode cX7_worth 25 = .ok (.iload_n 1, 1) := by decide +kernel
theorem dX7_worth_26 : decode cX7_worth 26 = .ok (.aaload, 1) := by decide +kernel
theorem dX7_worth_27 : decode cX7_worth 27 = .ok (.iload_n 2, 1) := by decide +kernel
theorem dX7_worth_28 : decode cX7_worth 28 = .ok (.iload_n 3, 1) := by decide +kernel
theorem dX7_worth_29 : decode cX7_worth 29 = .ok (.iload 4, 2) := by decide +kernel
theorem dX7_worth_31 : decode cX7_worth 31 = .ok (.invokevirtual 145, 3) := by decide +kernel
theorem dX7_worth_34 : decode cX7_worth 34 = .ok (.ireturn, 1) := by decide +kernel
theorem f_x_goingOn_rows : True := trivial
theorem dX7_goingOn_0 : decode cX7_goingOn 0 = .ok (.aload_n 0, 1) := by decide +kernel
theorem dX7_goingOn_1 : decode cX7_goingOn 1 = .ok (.iload_n 1, 1) := by decide +kernel
theorem dX7_goingOn_2 : decode cX7_goingOn 2 = .ok (.iload_n 2, 1) := by decide +kernel
theorem dX7_goingOn_3 : decode cX7_goingOn 3 = .ok (.iload_n 3, 1) := by decide +kernel
theorem dX7_goingOn_4 : decode cX7_goingOn 4 = .ok (.iload 4, 2) := by decide +kernel
theorem dX7_goingOn_6 : decode cX7_goingOn 6 = .ok (.invokevirtual 141, 3) := by decide +kernel
theorem dX7_goingOn_9 : decode cX7_goingOn 9 = .ok (.istore 5, 2) := by decide +kernel
theorem dX7_goingOn_11 : decode cX7_goingOn 11 = .ok (.iload 5, 2) := by decide +kernel
theorem dX7_goingOn_13 : decode cX7_goingOn 13 = .ok (.ifCond .eq 8, 3) := by decide +kernel
theorem dX7_goingOn_16 : decode cX7_goingOn 16 = .ok (.iload 5, 2) := by decide +kernel
theorem dX7_goingOn_18 : decode cX7_goingOn 18 = .ok (.goto 16, 3) := by decide +kernel
theorem dX7_goingOn_21 : decode cX7_goingOn 21 = .ok (.aload_n 0, 1) := by decide +kernel
theorem dX7_goingOn_22 : decode cX7_goingOn 22 = .ok (.getfield 24, 3) := by decide +kernel
theorem dX7_goingOn_25 : decode cX7_goingOn 25 = .ok (.iload_n 1, 1) := by decide +kernel
theorem dX7_goingOn_26 : decode cX7_goingOn 26 = .ok (.aaload, 1) := by decide +kernel
theorem dX7_goingOn_27 : decode cX7_goingOn 27 = .ok (.iload_n 2, 1) := by decide +kernel
theorem dX7_goingOn_28 : decode cX7_goingOn 28 = .ok (.iload_n 3, 1) := by decide +kernel
theorem dX7_goingOn_29 : decode cX7_goingOn 29 = .ok (.iload 4, 2) := by decide +kernel
theorem dX7_goingOn_31 : decode cX7_goingOn 31 = .ok (.invokevirtual 149, 3) := by decide +kernel
theorem dX7_goingOn_34 : decode cX7_goingOn 34 = .ok (.ireturn, 1) := by decide +kernel
theorem f_x_takes_rows : True := trivial
theorem dX7_takes_0 : decode cX7_takes 0 = .ok (.aload_n 0, 1) := by decide +kernel
theorem dX7_takes_1 : decode cX7_takes 1 = .ok (.iload_n 1, 1) := by decide +kernel
theorem dX7_takes_2 : decode cX7_takes 2 = .ok (.iload_n 2, 1) := by decide +kernel
theorem dX7_takes_3 : decode cX7_takes 3 = .ok (.iload_n 3, 1) := by decide +kernel
theorem dX7_takes_4 : decode cX7_takes 4 = .ok (.iload 4, 2) := by decide +kernel
theorem dX7_takes_6 : decode cX7_takes 6 = .ok (.invokevirtual 141, 3) := by decide +kernel
theorem dX7_takes_9 : decode cX7_takes 9 = .ok (.istore 5, 2) := by decide +kernel
theorem dX7_takes_11 : decode cX7_takes 11 = .ok (.iload 5, 2) := by decide +kernel
theorem dX7_takes_13 : decode cX7_takes 13 = .ok (.ifCond .eq 6, 3) := by decide +kernel
theorem dX7_takes_16 : decode cX7_takes 16 = .ok (.iload 5, 2) := by decide +kernel
theorem dX7_takes_18 : decode cX7_takes 18 = .ok (.ireturn, 1) := by decide +kernel
theorem dX7_takes_19 : decode cX7_takes 19 = .ok (.iload 4, 2) := by decide +kernel
theorem dX7_takes_21 : decode cX7_takes 21 = .ok (.iconst 1, 1) := by decide +kernel
theorem dX7_takes_22 : decode cX7_takes 22 = .ok (.iand, 1) := by decide +kernel
theorem dX7_takes_23 : decode cX7_takes 23 = .ok (.ifCond .ne 7, 3) := by decide +kernel
theorem dX7_takes_26 : decode cX7_takes 26 = .ok (.sipush (-1003), 3) := by decide +kernel
theorem dX7_takes_29 : decode cX7_takes 29 = .ok (.ireturn, 1) := by decide +kernel
theorem dX7_takes_30 : decode cX7_takes 30 = .ok (.aload_n 0, 1) := by decide +kernel
theorem dX7_takes_31 : decode cX7_takes 31 = .ok (.getfield 24, 3) := by decide +kernel
theorem dX7_takes_34 : decode cX7_takes 34 = .ok (.iload_n 1, 1) := by decide +kernel
theorem dX7_takes_35 : decode cX7_takes 35 = .ok (.aaload, 1) := by decide +kernel
theorem dX7_takes_36 : decode cX7_takes 36 = .ok (.iload_n 2, 1) := by decide +kernel
theorem dX7_takes_37 : decode cX7_takes 37 = .ok (.iload_n 3, 1) := by decide +kernel
theorem dX7_takes_38 : decode cX7_takes 38 = .ok (.iload 4, 2) := by decide +kernel
theorem dX7_takes_40 : decode cX7_takes 40 = .ok (.invokevirtual 152, 3) := by decide +kernel
theorem dX7_takes_43 : decode cX7_takes 43 = .ok (.ifCond .eq 7, 3) := by decide +kernel
theorem dX7_takes_46 : decode cX7_takes 46 = .ok (.iconst 1, 1) := by decide +kernel
theorem dX7_takes_47 : decode cX7_takes 47 = .ok (.goto 4, 3) := by decide +kernel
theorem dX7_takes_50 : decode cX7_takes 50 = .ok (.iconst 0, 1) := by decide +kernel
theorem dX7_takes_51 : decode cX7_takes 51 = .ok (.ireturn, 1) := by decide +kernel

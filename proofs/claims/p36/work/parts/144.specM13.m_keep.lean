theorem f_m_keep_rows : True := trivial
theorem dX8_keep_0 : decode cX8_keep 0 = .ok (.iload_n 1, 1) := by decide +kernel
theorem dX8_keep_1 : decode cX8_keep 1 = .ok (.i2l, 1) := by decide +kernel
theorem dX8_keep_2 : decode cX8_keep 2 = .ok (.lconst 0, 1) := by decide +kernel
theorem dX8_keep_3 : decode cX8_keep 3 = .ok (.lconst 1, 1) := by decide +kernel
theorem dX8_keep_4 : decode cX8_keep 4 = .ok (.invokestatic 107, 3) := by decide +kernel
theorem dX8_keep_7 : decode cX8_keep 7 = .ok (.ifCond .ne 7, 3) := by decide +kernel
theorem dX8_keep_10 : decode cX8_keep 10 = .ok (.sipush (-1001), 3) := by decide +kernel
theorem dX8_keep_13 : decode cX8_keep 13 = .ok (.ireturn, 1) := by decide +kernel
theorem dX8_keep_14 : decode cX8_keep 14 = .ok (.bipush 35, 2) := by decide +kernel
theorem dX8_keep_16 : decode cX8_keep 16 = .ok (.iload_n 1, 1) := by decide +kernel
theorem dX8_keep_17 : decode cX8_keep 17 = .ok (.imul, 1) := by decide +kernel
theorem dX8_keep_18 : decode cX8_keep 18 = .ok (.istore_n 2, 1) := by decide +kernel
theorem dX8_keep_19 : decode cX8_keep 19 = .ok (.aload_n 0, 1) := by decide +kernel
theorem dX8_keep_20 : decode cX8_keep 20 = .ok (.getfield 99, 3) := by decide +kernel
theorem dX8_keep_23 : decode cX8_keep 23 = .ok (.iload_n 2, 1) := by decide +kernel
theorem dX8_keep_24 : decode cX8_keep 24 = .ok (.aload_n 0, 1) := by decide +kernel
theorem dX8_keep_25 : decode cX8_keep 25 = .ok (.getfield 304, 3) := by decide +kernel
theorem dX8_keep_28 : decode cX8_keep 28 = .ok (.iastore, 1) := by decide +kernel
theorem dX8_keep_29 : decode cX8_keep 29 = .ok (.aload_n 0, 1) := by decide +kernel
theorem dX8_keep_30 : decode cX8_keep 30 = .ok (.getfield 99, 3) := by decide +kernel
theorem dX8_keep_33 : decode cX8_keep 33 = .ok (.iload_n 2, 1) := by decide +kernel
theorem dX8_keep_34 : decode cX8_keep 34 = .ok (.iconst 1, 1) := by decide +kernel
theorem dX8_keep_35 : decode cX8_keep 35 = .ok (.iadd, 1) := by decide +kernel
theorem dX8_keep_36 : decode cX8_keep 36 = .ok (.aload_n 0, 1) := by decide +kernel
theorem dX8_keep_37 : decode cX8_keep 37 = .ok (.getfield 315, 3) := by decide +kernel
theorem dX8_keep_40 : decode cX8_keep 40 = .ok (.iastore, 1) := by decide +kernel
theorem dX8_keep_41 : decode cX8_keep 41 = .ok (.aload_n 0, 1) := by decide +kernel
theorem dX8_keep_42 : decode cX8_keep 42 = .ok (.getfield 99, 3) := by decide +kernel
theorem dX8_keep_45 : decode cX8_keep 45 = .ok (.iload_n 2, 1) := by decide +kernel
theorem dX8_keep_46 : decode cX8_keep 46 = .ok (.iconst 2, 1) := by decide +kernel
theorem dX8_keep_47 : decode cX8_keep 47 = .ok (.iadd, 1) := by decide +kernel
theorem dX8_keep_48 : decode cX8_keep 48 = .ok (.aload_n 0, 1) := by decide +kernel
theorem dX8_keep_49 : decode cX8_keep 49 = .ok (.getfield 374, 3) := by decide +kernel
theorem dX8_keep_52 : decode cX8_keep 52 = .ok (.iastore, 1) := by decide +kernel
theorem dX8_keep_53 : decode cX8_keep 53 = .ok (.iconst 0, 1) := by decide +kernel
theorem dX8_keep_54 : decode cX8_keep 54 = .ok (.istore_n 3, 1) := by decide +kernel
theorem dX8_keep_55 : decode cX8_keep 55 = .ok (.iload_n 3, 1) := by decide +kernel
theorem dX8_keep_56 : decode cX8_keep 56 = .ok (.bipush 24, 2) := by decide +kernel
theorem dX8_keep_58 : decode cX8_keep 58 = .ok (.if_icmp .ge 33, 3) := by decide +kernel
theorem dX8_keep_61 : decode cX8_keep 61 = .ok (.aload_n 0, 1) := by decide +kernel
theorem dX8_keep_62 : decode cX8_keep 62 = .ok (.getfield 99, 3) := by decide +kernel
theorem dX8_keep_65 : decode cX8_keep 65 = .ok (.iload_n 2, 1) := by decide +kernel
theorem dX8_keep_66 : decode cX8_keep 66 = .ok (.iconst 3, 1) := by decide +kernel
theorem dX8_keep_67 : decode cX8_keep 67 = .ok (.iadd, 1) := by decide +kernel
theorem dX8_keep_68 : decode cX8_keep 68 = .ok (.iload_n 3, 1) := by decide +kernel
theorem dX8_keep_69 : decode cX8_keep 69 = .ok (.iadd, 1) := by decide +kernel
theorem dX8_keep_70 : decode cX8_keep 70 = .ok (.aload_n 0, 1) := by decide +kernel
theorem dX8_keep_71 : decode cX8_keep 71 = .ok (.getfield 75, 3) := by decide +kernel
theorem dX8_keep_74 : decode cX8_keep 74 = .ok (.iload_n 3, 1) := by decide +kernel
theorem dX8_keep_75 : decode cX8_keep 75 = .ok (.baload, 1) := by decide +kernel
theorem dX8_keep_76 : decode cX8_keep 76 = .ok (.ifCond .eq 7, 3) := by decide +kernel
theorem dX8_keep_79 : decode cX8_keep 79 = .ok (.iconst 1, 1) := by decide +kernel
theorem dX8_keep_80 : decode cX8_keep 80 = .ok (.goto 4, 3) := by decide +kernel
theorem dX8_keep_83 : decode cX8_keep 83 = .ok (.iconst 0, 1) := by decide +kernel
theorem dX8_keep_84 : decode cX8_keep 84 = .ok (.iastore, 1) := by decide +kernel
theorem dX8_keep_85 : decode cX8_keep 85 = .ok (.iinc 3 1, 3) := by decide +kernel
theorem dX8_keep_88 : decode cX8_keep 88 = .ok (.goto (-33), 3) := by decide +kernel
theorem dX8_keep_91 : decode cX8_keep 91 = .ok (.iconst 0, 1) := by decide +kernel
theorem dX8_keep_92 : decode cX8_keep 92 = .ok (.istore_n 3, 1) := by decide +kernel
theorem dX8_keep_93 : decode cX8_keep 93 = .ok (.iload_n 3, 1) := by decide +kernel
theorem dX8_keep_94 : decode cX8_keep 94 = .ok (.iconst 4, 1) := by decide +kernel
theorem dX8_keep_95 : decode cX8_keep 95 = .ok (.if_icmp .ge 43, 3) := by decide +kernel
theorem dX8_keep_98 : decode cX8_keep 98 = .ok (.aload_n 0, 1) := by decide +kernel
theorem dX8_keep_99 : decode cX8_keep 99 = .ok (.getfield 99, 3) := by decide +kernel
theorem dX8_keep_102 : decode cX8_keep 102 = .ok (.iload_n 2, 1) := by decide +kernel
theorem dX8_keep_103 : decode cX8_keep 103 = .ok (.bipush 27, 2) := by decide +kernel
theorem dX8_keep_105 : decode cX8_keep 105 = .ok (.iadd, 1) := by decide +kernel
theorem dX8_keep_106 : decode cX8_keep 106 = .ok (.iload_n 3, 1) := by decide +kernel
theorem dX8_keep_107 : decode cX8_keep 107 = .ok (.iadd, 1) := by decide +kernel
theorem dX8_keep_108 : decode cX8_keep 108 = .ok (.aload_n 0, 1) := by decide +kernel
theorem dX8_keep_109 : decode cX8_keep 109 = .ok (.getfield 84, 3) := by decide +kernel
theorem dX8_keep_112 : decode cX8_keep 112 = .ok (.iload_n 3, 1) := by decide +kernel
theorem dX8_keep_113 : decode cX8_keep 113 = .ok (.iaload, 1) := by decide +kernel
theorem dX8_keep_114 : decode cX8_keep 114 = .ok (.iastore, 1) := by decide +kernel
theorem dX8_keep_115 : decode cX8_keep 115 = .ok (.aload_n 0, 1) := by decide +kernel
theorem dX8_keep_116 : decode cX8_keep 116 = .ok (.getfield 99, 3) := by decide +kernel
theorem dX8_keep_119 : decode cX8_keep 119 = .ok (.iload_n 2, 1) := by decide +kernel
theorem dX8_keep_120 : decode cX8_keep 120 = .ok (.bipush 31, 2) := by decide +kernel
theorem dX8_keep_122 : decode cX8_keep 122 = .ok (.iadd, 1) := by decide +kernel
theorem dX8_keep_123 : decode cX8_keep 123 = .ok (.iload_n 3, 1) := by decide +kernel
theorem dX8_keep_124 : decode cX8_keep 124 = .ok (.iadd, 1) := by decide +kernel
theorem dX8_keep_125 : decode cX8_keep 125 = .ok (.aload_n 0, 1) := by decide +kernel
theorem dX8_keep_126 : decode cX8_keep 126 = .ok (.getfield 87, 3) := by decide +kernel
theorem dX8_keep_129 : decode cX8_keep 129 = .ok (.iload_n 3, 1) := by decide +kernel
theorem dX8_keep_130 : decode cX8_keep 130 = .ok (.iaload, 1) := by decide +kernel
theorem dX8_keep_131 : decode cX8_keep 131 = .ok (.iastore, 1) := by decide +kernel
theorem dX8_keep_132 : decode cX8_keep 132 = .ok (.iinc 3 1, 3) := by decide +kernel
theorem dX8_keep_135 : decode cX8_keep 135 = .ok (.goto (-42), 3) := by decide +kernel
theorem dX8_keep_138 : decode cX8_keep 138 = .ok (.aload_n 0, 1) := by decide +kernel
theorem dX8_keep_139 : decode cX8_keep 139 = .ok (.getfield 96, 3) := by decide +kernel
theorem dX8_keep_142 : decode cX8_keep 142 = .ok (.iload_n 1, 1) := by decide +kernel
theorem dX8_keep_143 : decode cX8_keep 143 = .ok (.iconst 1, 1) := by decide +kernel
theorem dX8_keep_144 : decode cX8_keep 144 = .ok (.bastore, 1) := by decide +kernel
theorem dX8_keep_145 : decode cX8_keep 145 = .ok (.iconst 1, 1) := by decide +kernel
theorem dX8_keep_146 : decode cX8_keep 146 = .ok (.ireturn, 1) := by decide +kernel
theorem f_m_goBack_rows : True := trivial
theorem dX8_goBack_0 : decode cX8_goBack 0 = .ok (.iload_n 1, 1) := by decide +kernel
theorem dX8_goBack_1 : decode cX8_goBack 1 = .ok (.i2l, 1) := by decide +kernel
theorem dX8_goBack_2 : decode cX8_goBack 2 = .ok (.lconst 0, 1) := by decide +kernel
theorem dX8_goBack_3 : decode cX8_goBack 3 = .ok (.lconst 1, 1) := by decide +kernel
theorem dX8_goBack_4 : decode cX8_goBack 4 = .ok (.invokestatic 107, 3) := by decide +kernel
theorem dX8_goBack_7 : decode cX8_goBack 7 = .ok (.ifCond .ne 7, 3) := by decide +kernel
theorem dX8_goBack_10 : decode cX8_goBack 10 = .ok (.sipush (-1001), 3) := by decide +kernel
theorem dX8_goBack_13 : decode cX8_goBack 13 = .ok (.ireturn, 1) := by decide +kernel
theorem dX8_goBack_14 : decode cX8_goBack 14 = .ok (.aload_n 0, 1) := by decide +kernel
theorem dX8_goBack_15 : decode cX8_goBack 15 = .ok (.getfield 96, 3) := by decide +kernel
theorem dX8_goBack_18 : decode cX8_goBack 18 = .ok (.iload_n 1, 1) := by decide +kernel
theorem dX8_goBack_19 : decode cX8_goBack 19 = .ok (.baload, 1) := by decide +kernel
theorem dX8_goBack_20 : decode cX8_goBack 20 = .ok (.ifCond .ne 7, 3) := by decide +kernel
theorem dX8_goBack_23 : decode cX8_goBack 23 = .ok (.sipush (-1003), 3) := by decide +kernel
theorem dX8_goBack_26 : decode cX8_goBack 26 = .ok (.ireturn, 1) := by decide +kernel
theorem dX8_goBack_27 : decode cX8_goBack 27 = .ok (.bipush 35, 2) := by decide +kernel
theorem dX8_goBack_29 : decode cX8_goBack 29 = .ok (.iload_n 1, 1) := by decide +kernel
theorem dX8_goBack_30 : decode cX8_goBack 30 = .ok (.imul, 1) := by decide +kernel
theorem dX8_goBack_31 : decode cX8_goBack 31 = .ok (.istore_n 2, 1) := by decide +kernel
theorem dX8_goBack_32 : decode cX8_goBack 32 = .ok (.aload_n 0, 1) := by decide +kernel
theorem dX8_goBack_33 : decode cX8_goBack 33 = .ok (.aload_n 0, 1) := by decide +kernel
theorem dX8_goBack_34 : decode cX8_goBack 34 = .ok (.getfield 99, 3) := by decide +kernel
theorem dX8_goBack_37 : decode cX8_goBack 37 = .ok (.iload_n 2, 1) := by decide +kernel
theorem dX8_goBack_38 : decode cX8_goBack 38 = .ok (.iaload, 1) := by decide +kernel
theorem dX8_goBack_39 : decode cX8_goBack 39 = .ok (.putfield 304, 3) := by decide +kernel
theorem dX8_goBack_42 : decode cX8_goBack 42 = .ok (.aload_n 0, 1) := by decide +kernel
theorem dX8_goBack_43 : decode cX8_goBack 43 = .ok (.aload_n 0, 1) := by decide +kernel
theorem dX8_goBack_44 : decode cX8_goBack 44 = .ok (.getfield 99, 3) := by decide +kernel
theorem dX8_goBack_47 : decode cX8_goBack 47 = .ok (.iload_n 2, 1) := by decide +kernel
theorem dX8_goBack_48 : decode cX8_goBack 48 = .ok (.iconst 1, 1) := by decide +kernel
theorem dX8_goBack_49 : decode cX8_goBack 49 = .ok (.iadd, 1) := by decide +kernel
theorem dX8_goBack_50 : decode cX8_goBack 50 = .ok (.iaload, 1) := by decide +kernel
theorem dX8_goBack_51 : decode cX8_goBack 51 = .ok (.putfield 315, 3) := by decide +kernel
theorem dX8_goBack_54 : decode cX8_goBack 54 = .ok (.aload_n 0, 1) := by decide +kernel
theorem dX8_goBack_55 : decode cX8_goBack 55 = .ok (.aload_n 0, 1) := by decide +kernel
theorem dX8_goBack_56 : decode cX8_goBack 56 = .ok (.getfield 99, 3) := by decide +kernel
theorem dX8_goBack_59 : decode cX8_goBack 59 = .ok (.iload_n 2, 1) := by decide +kernel
theorem dX8_goBack_60 : decode cX8_goBack 60 = .ok (.iconst 2, 1) := by decide +kernel
theorem dX8_goBack_61 : decode cX8_goBack 61 = .ok (.iadd, 1) := by decide +kernel
theorem dX8_goBack_62 : decode cX8_goBack 62 = .ok (.iaload, 1) := by decide +kernel
theorem dX8_goBack_63 : decode cX8_goBack 63 = .ok (.putfield 374, 3) := by decide +kernel
theorem dX8_goBack_66 : decode cX8_goBack 66 = .ok (.iconst 0, 1) := by decide +kernel
theorem dX8_goBack_67 : decode cX8_goBack 67 = .ok (.istore_n 3, 1) := by decide +kernel
theorem dX8_goBack_68 : decode cX8_goBack 68 = .ok (.iload_n 3, 1) := by decide +kernel
theorem dX8_goBack_69 : decode cX8_goBack 69 = .ok (.bipush 24, 2) := by decide +kernel
theorem dX8_goBack_71 : decode cX8_goBack 71 = .ok (.if_icmp .ge 34, 3) := by decide +kernel
theorem dX8_goBack_74 : decode cX8_goBack 74 = .ok (.aload_n 0, 1) := by decide +kernel
theorem dX8_goBack_75 : decode cX8_goBack 75 = .ok (.getfield 75, 3) := by decide +kernel
theorem dX8_goBack_78 : decode cX8_goBack 78 = .ok (.iload_n 3, 1) := by decide +kernel
theorem dX8_goBack_79 : decode cX8_goBack 79 = .ok (.aload_n 0, 1) := by decide +kernel
theorem dX8_goBack_80 : decode cX8_goBack 80 = .ok (.getfield 99, 3) := by decide +kernel
theorem dX8_goBack_83 : decode cX8_goBack 83 = .ok (.iload_n 2, 1) := by decide +kernel
theorem dX8_goBack_84 : decode cX8_goBack 84 = .ok (.iconst 3, 1) := by decide +kernel
theorem dX8_goBack_85 : decode cX8_goBack 85 = .ok (.iadd, 1) := by decide +kernel
theorem dX8_goBack_86 : decode cX8_goBack 86 = .ok (.iload_n 3, 1) := by decide +kernel
theorem dX8_goBack_87 : decode cX8_goBack 87 = .ok (.iadd, 1) := by decide +kernel
theorem dX8_goBack_88 : decode cX8_goBack 88 = .ok (.iaload, 1) := by decide +kernel
theorem dX8_goBack_89 : decode cX8_goBack 89 = .ok (.iconst 1, 1) := by decide +kernel
theorem dX8_goBack_90 : decode cX8_goBack 90 = .ok (.if_icmp .ne 7, 3) := by decide +kernel
theorem dX8_goBack_93 : decode cX8_goBack 93 = .ok (.iconst 1, 1) := by decide +kernel
theorem dX8_goBack_94 : decode cX8_goBack 94 = .ok (.goto 4, 3) := by decide +kernel
theorem dX8_goBack_97 : decode cX8_goBack 97 = .ok (.iconst 0, 1) := by decide +kernel
theorem dX8_goBack_98 : decode cX8_goBack 98 = .ok (.bastore, 1) := by decide +kernel
theorem dX8_goBack_99 : decode cX8_goBack 99 = .ok (.iinc 3 1, 3) := by decide +kernel
theorem dX8_goBack_102 : decode cX8_goBack 102 = .ok (.goto (-34), 3) := by decide +kernel
theorem dX8_goBack_105 : decode cX8_goBack 105 = .ok (.iconst 0, 1) := by decide +kernel
theorem dX8_goBack_106 : decode cX8_goBack 106 = .ok (.istore_n 3, 1) := by decide +kernel
theorem dX8_goBack_107 : decode cX8_goBack 107 = .ok (.iload_n 3, 1) := by decide +kernel
theorem dX8_goBack_108 : decode cX8_goBack 108 = .ok (.iconst 4, 1) := by decide +kernel
theorem dX8_goBack_109 : decode cX8_goBack 109 = .ok (.if_icmp .ge 43, 3) := by decide +kernel
theorem dX8_goBack_112 : decode cX8_goBack 112 = .ok (.aload_n 0, 1) := by decide +kernel
theorem dX8_goBack_113 : decode cX8_goBack 113 = .ok (.getfield 84, 3) := by decide +kernel
theorem dX8_goBack_116 : decode cX8_goBack 116 = .ok (.iload_n 3, 1) := by decide +kernel
theorem dX8_goBack_117 : decode cX8_goBack 117 = .ok (.aload_n 0, 1) := by decide +kernel
theorem dX8_goBack_118 : decode cX8_goBack 118 = .ok (.getfield 99, 3) := by decide +kernel
theorem dX8_goBack_121 : decode cX8_goBack 121 = .ok (.iload_n 2, 1) := by decide +kernel
theorem dX8_goBack_122 : decode cX8_goBack 122 = .ok (.bipush 27, 2) := by decide +kernel
theorem dX8_goBack_124 : decode cX8_goBack 124 = .ok (.iadd, 1) := by decide +kernel
theorem dX8_goBack_125 : decode cX8_goBack 125 = .ok (.iload_n 3, 1) := by decide +kernel
theorem dX8_goBack_126 : decode cX8_goBack 126 = .ok (.iadd, 1) := by decide +kernel
theorem dX8_goBack_127 : decode cX8_goBack 127 = .ok (.iaload, 1) := by decide +kernel
theorem dX8_goBack_128 : decode cX8_goBack 128 = .ok (.iastore, 1) := by decide +kernel
theorem dX8_goBack_129 : decode cX8_goBack 129 = .ok (.aload_n 0, 1) := by decide +kernel
theorem dX8_goBack_130 : decode cX8_goBack 130 = .ok (.getfield 87, 3) := by decide +kernel
theorem dX8_goBack_133 : decode cX8_goBack 133 = .ok (.iload_n 3, 1) := by decide +kernel
theorem dX8_goBack_134 : decode cX8_goBack 134 = .ok (.aload_n 0, 1) := by decide +kernel
theorem dX8_goBack_135 : decode cX8_goBack 135 = .ok (.getfield 99, 3) := by decide +kernel
theorem dX8_goBack_138 : decode cX8_goBack 138 = .ok (.iload_n 2, 1) := by decide +kernel
theorem dX8_goBack_139 : decode cX8_goBack 139 = .ok (.bipush 31, 2) := by decide +kernel
theorem dX8_goBack_141 : decode cX8_goBack 141 = .ok (.iadd, 1) := by decide +kernel
theorem dX8_goBack_142 : decode cX8_goBack 142 = .ok (.iload_n 3, 1) := by decide +kernel
theorem dX8_goBack_143 : decode cX8_goBack 143 = .ok (.iadd, 1) := by decide +kernel
theorem dX8_goBack_144 : decode cX8_goBack 144 = .ok (.iaload, 1) := by decide +kernel
theorem dX8_goBack_145 : decode cX8_goBack 145 = .ok (.iastore, 1) := by decide +kernel
theorem dX8_goBack_146 : decode cX8_goBack 146 = .ok (.iinc 3 1, 3) := by decide +kernel
theorem dX8_goBack_149 : decode cX8_goBack 149 = .ok (.goto (-42), 3) := by decide +kernel
theorem dX8_goBack_152 : decode cX8_goBack 152 = .ok (.iconst 1, 1) := by decide +kernel
theorem dX8_goBack_153 : decode cX8_goBack 153 = .ok (.ireturn, 1) := by decide +kernel

theorem f_m_street_rows : True := trivial
theorem dX8_street_0 : decode cX8_street 0 = .ok (.iload_n 1, 1) := by decide +kernel
theorem dX8_street_1 : decode cX8_street 1 = .ok (.i2l, 1) := by decide +kernel
theorem dX8_street_2 : decode cX8_street 2 = .ok (.lconst 0, 1) := by decide +kernel
theorem dX8_street_3 : decode cX8_street 3 = .ok (.ldc2_w 105, 3) := by decide +kernel
theorem dX8_street_6 : decode cX8_street 6 = .ok (.invokestatic 107, 3) := by decide +kernel
theorem dX8_street_9 : decode cX8_street 9 = .ok (.ifCond .ne 7, 3) := by decide +kernel
theorem dX8_street_12 : decode cX8_street 12 = .ok (.sipush (-1001), 3) := by decide +kernel
theorem dX8_street_15 : decode cX8_street 15 = .ok (.ireturn, 1) := by decide +kernel
theorem dX8_street_16 : decode cX8_street 16 = .ok (.aload_n 0, 1) := by decide +kernel
theorem dX8_street_17 : decode cX8_street 17 = .ok (.iconst (-1), 1) := by decide +kernel
theorem dX8_street_18 : decode cX8_street 18 = .ok (.putfield 25, 3) := by decide +kernel
theorem dX8_street_21 : decode cX8_street 21 = .ok (.aload_n 0, 1) := by decide +kernel
theorem dX8_street_22 : decode cX8_street 22 = .ok (.iconst 0, 1) := by decide +kernel
theorem dX8_street_23 : decode cX8_street 23 = .ok (.putfield 118, 3) := by decide +kernel
theorem dX8_street_26 : decode cX8_street 26 = .ok (.aload_n 0, 1) := by decide +kernel
theorem dX8_street_27 : decode cX8_street 27 = .ok (.invokevirtual 102, 3) := by decide +kernel
theorem dX8_street_30 : decode cX8_street 30 = .ok (.iconst 0, 1) := by decide +kernel
theorem dX8_street_31 : decode cX8_street 31 = .ok (.istore_n 2, 1) := by decide +kernel
theorem dX8_street_32 : decode cX8_street 32 = .ok (.iload_n 2, 1) := by decide +kernel
theorem dX8_street_33 : decode cX8_street 33 = .ok (.ifCond .ne 18, 3) := by decide +kernel
theorem dX8_street_36 : decode cX8_street 36 = .ok (.aload_n 0, 1) := by decide +kernel
theorem dX8_street_37 : decode cX8_street 37 = .ok (.invokevirtual 121, 3) := by decide +kernel
theorem dX8_street_40 : decode cX8_street 40 = .ok (.ifCond .lt 11, 3) := by decide +kernel
theorem dX8_street_43 : decode cX8_street 43 = .ok (.aload_n 0, 1) := by decide +kernel
theorem dX8_street_44 : decode cX8_street 44 = .ok (.invokevirtual 203, 3) := by decide +kernel
theorem dX8_street_47 : decode cX8_street 47 = .ok (.istore_n 2, 1) := by decide +kernel
theorem dX8_street_48 : decode cX8_street 48 = .ok (.goto (-16), 3) := by decide +kernel
theorem dX8_street_51 : decode cX8_street 51 = .ok (.iload_n 2, 1) := by decide +kernel
theorem dX8_street_52 : decode cX8_street 52 = .ok (.ifCond .ne 22, 3) := by decide +kernel
theorem dX8_street_55 : decode cX8_street 55 = .ok (.aload_n 0, 1) := by decide +kernel
theorem dX8_street_56 : decode cX8_street 56 = .ok (.getfield 177, 3) := by decide +kernel
theorem dX8_street_59 : decode cX8_street 59 = .ok (.ifCond .ne 15, 3) := by decide +kernel
theorem dX8_street_62 : decode cX8_street 62 = .ok (.aload_n 0, 1) := by decide +kernel
theorem dX8_street_63 : decode cX8_street 63 = .ok (.iconst 1, 1) := by decide +kernel
theorem dX8_street_64 : decode cX8_street 64 = .ok (.aload_n 0, 1) := by decide +kernel
theorem dX8_street_65 : decode cX8_street 65 = .ok (.getfield 113, 3) := by decide +kernel
theorem dX8_street_68 : decode cX8_street 68 = .ok (.invokevirtual 159, 3) := by decide +kernel
theorem dX8_street_71 : decode cX8_street 71 = .ok (.goto 4, 3) := by decide +kernel
theorem dX8_street_74 : decode cX8_street 74 = .ok (.iload_n 2, 1) := by decide +kernel
theorem dX8_street_75 : decode cX8_street 75 = .ok (.istore_n 2, 1) := by decide +kernel
theorem dX8_street_76 : decode cX8_street 76 = .ok (.aload_n 0, 1) := by decide +kernel
theorem dX8_street_77 : decode cX8_street 77 = .ok (.iconst 0, 1) := by decide +kernel
theorem dX8_street_78 : decode cX8_street 78 = .ok (.putfield 113, 3) := by decide +kernel
theorem dX8_street_81 : decode cX8_street 81 = .ok (.iload_n 2, 1) := by decide +kernel
theorem dX8_street_82 : decode cX8_street 82 = .ok (.ifCond .le 8, 3) := by decide +kernel
theorem dX8_street_85 : decode cX8_street 85 = .ok (.bipush (-10), 2) := by decide +kernel
theorem dX8_street_87 : decode cX8_street 87 = .ok (.iload_n 2, 1) := by decide +kernel
theorem dX8_street_88 : decode cX8_street 88 = .ok (.isub, 1) := by decide +kernel
theorem dX8_street_89 : decode cX8_street 89 = .ok (.ireturn, 1) := by decide +kernel
theorem dX8_street_90 : decode cX8_street 90 = .ok (.aload_n 0, 1) := by decide +kernel
theorem dX8_street_91 : decode cX8_street 91 = .ok (.getfield 7, 3) := by decide +kernel
theorem dX8_street_94 : decode cX8_street 94 = .ok (.iload_n 1, 1) := by decide +kernel
theorem dX8_street_95 : decode cX8_street 95 = .ok (.aload_n 0, 1) := by decide +kernel
theorem dX8_street_96 : decode cX8_street 96 = .ok (.getfield 177, 3) := by decide +kernel
theorem dX8_street_99 : decode cX8_street 99 = .ok (.iastore, 1) := by decide +kernel
theorem dX8_street_100 : decode cX8_street 100 = .ok (.iconst 0, 1) := by decide +kernel
theorem dX8_street_101 : decode cX8_street 101 = .ok (.istore_n 3, 1) := by decide +kernel
theorem dX8_street_102 : decode cX8_street 102 = .ok (.iload_n 3, 1) := by decide +kernel
theorem dX8_street_103 : decode cX8_street 103 = .ok (.aload_n 0, 1) := by decide +kernel
theorem dX8_street_104 : decode cX8_street 104 = .ok (.getfield 177, 3) := by decide +kernel
theorem dX8_street_107 : decode cX8_street 107 = .ok (.if_icmp .ge 43, 3) := by decide +kernel
theorem dX8_street_110 : decode cX8_street 110 = .ok (.aload_n 0, 1) := by decide +kernel
theorem dX8_street_111 : decode cX8_street 111 = .ok (.getfield 13, 3) := by decide +kernel
theorem dX8_street_114 : decode cX8_street 114 = .ok (.bipush 24, 2) := by decide +kernel
theorem dX8_street_116 : decode cX8_street 116 = .ok (.iload_n 1, 1) := by decide +kernel
theorem dX8_street_117 : decode cX8_street 117 = .ok (.imul, 1) := by decide +kernel
theorem dX8_street_118 : decode cX8_street 118 = .ok (.iload_n 3, 1) := by decide +kernel
theorem dX8_street_119 : decode cX8_street 119 = .ok (.iadd, 1) := by decide +kernel
theorem dX8_street_120 : decode cX8_street 120 = .ok (.aload_n 0, 1) := by decide +kernel
theorem dX8_street_121 : decode cX8_street 121 = .ok (.getfield 29, 3) := by decide +kernel
theorem dX8_street_124 : decode cX8_street 124 = .ok (.iload_n 3, 1) := by decide +kernel
theorem dX8_street_125 : decode cX8_street 125 = .ok (.iaload, 1) := by decide +kernel
theorem dX8_street_126 : decode cX8_street 126 = .ok (.iastore, 1) := by decide +kernel
theorem dX8_street_127 : decode cX8_street 127 = .ok (.aload_n 0, 1) := by decide +kernel
theorem dX8_street_128 : decode cX8_street 128 = .ok (.getfield 16, 3) := by decide +kernel
theorem dX8_street_131 : decode cX8_street 131 = .ok (.bipush 24, 2) := by decide +kernel
theorem dX8_street_133 : decode cX8_street 133 = .ok (.iload_n 1, 1) := by decide +kernel
theorem dX8_street_134 : decode cX8_street 134 = .ok (.imul, 1) := by decide +kernel
theorem dX8_street_135 : decode cX8_street 135 = .ok (.iload_n 3, 1) := by decide +kernel
theorem dX8_street_136 : decode cX8_street 136 = .ok (.iadd, 1) := by decide +kernel
theorem dX8_street_137 : decode cX8_street 137 = .ok (.aload_n 0, 1) := by decide +kernel
theorem dX8_street_138 : decode cX8_street 138 = .ok (.getfield 32, 3) := by decide +kernel
theorem dX8_street_141 : decode cX8_street 141 = .ok (.iload_n 3, 1) := by decide +kernel
theorem dX8_street_142 : decode cX8_street 142 = .ok (.iaload, 1) := by decide +kernel
theorem dX8_street_143 : decode cX8_street 143 = .ok (.iastore, 1) := by decide +kernel
theorem dX8_street_144 : decode cX8_street 144 = .ok (.iinc 3 1, 3) := by decide +kernel
theorem dX8_street_147 : decode cX8_street 147 = .ok (.goto (-45), 3) := by decide +kernel
theorem dX8_street_150 : decode cX8_street 150 = .ok (.iconst 0, 1) := by decide +kernel
theorem dX8_street_151 : decode cX8_street 151 = .ok (.istore_n 3, 1) := by decide +kernel
theorem dX8_street_152 : decode cX8_street 152 = .ok (.iload_n 3, 1) := by decide +kernel
theorem dX8_street_153 : decode cX8_street 153 = .ok (.bipush 9, 2) := by decide +kernel
theorem dX8_street_155 : decode cX8_street 155 = .ok (.if_icmp .ge 26, 3) := by decide +kernel
theorem dX8_street_158 : decode cX8_street 158 = .ok (.aload_n 0, 1) := by decide +kernel
theorem dX8_street_159 : decode cX8_street 159 = .ok (.getfield 19, 3) := by decide +kernel
theorem dX8_street_162 : decode cX8_street 162 = .ok (.bipush 9, 2) := by decide +kernel
theorem dX8_street_164 : decode cX8_street 164 = .ok (.iload_n 1, 1) := by decide +kernel
theorem dX8_street_165 : decode cX8_street 165 = .ok (.imul, 1) := by decide +kernel
theorem dX8_street_166 : decode cX8_street 166 = .ok (.iload_n 3, 1) := by decide +kernel
theorem dX8_street_167 : decode cX8_street 167 = .ok (.iadd, 1) := by decide +kernel
theorem dX8_street_168 : decode cX8_street 168 = .ok (.aload_n 0, 1) := by decide +kernel
theorem dX8_street_169 : decode cX8_street 169 = .ok (.getfield 35, 3) := by decide +kernel
theorem dX8_street_172 : decode cX8_street 172 = .ok (.iload_n 3, 1) := by decide +kernel
theorem dX8_street_173 : decode cX8_street 173 = .ok (.iaload, 1) := by decide +kernel
theorem dX8_street_174 : decode cX8_street 174 = .ok (.iastore, 1) := by decide +kernel
theorem dX8_street_175 : decode cX8_street 175 = .ok (.iinc 3 1, 3) := by decide +kernel
theorem dX8_street_178 : decode cX8_street 178 = .ok (.goto (-26), 3) := by decide +kernel
theorem dX8_street_181 : decode cX8_street 181 = .ok (.aload_n 0, 1) := by decide +kernel
theorem dX8_street_182 : decode cX8_street 182 = .ok (.getfield 177, 3) := by decide +kernel
theorem dX8_street_185 : decode cX8_street 185 = .ok (.ireturn, 1) := by decide +kernel

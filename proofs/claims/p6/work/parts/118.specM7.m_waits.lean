theorem f_m_waits_rows : True := trivial
theorem dX8_waits_0 : decode cX8_waits 0 = .ok (.aload_n 0, 1) := by decide +kernel
theorem dX8_waits_1 : decode cX8_waits 1 = .ok (.iload_n 1, 1) := by decide +kernel
theorem dX8_waits_2 : decode cX8_waits 2 = .ok (.invokevirtual 206, 3) := by decide +kernel
theorem dX8_waits_5 : decode cX8_waits 5 = .ok (.ifCond .eq 12, 3) := by decide +kernel
theorem dX8_waits_8 : decode cX8_waits 8 = .ok (.aload_n 0, 1) := by decide +kernel
theorem dX8_waits_9 : decode cX8_waits 9 = .ok (.iload_n 1, 1) := by decide +kernel
theorem dX8_waits_10 : decode cX8_waits 10 = .ok (.iload_n 3, 1) := by decide +kernel
theorem dX8_waits_11 : decode cX8_waits 11 = .ok (.invokevirtual 215, 3) := by decide +kernel
theorem dX8_waits_14 : decode cX8_waits 14 = .ok (.ifCond .ne 7, 3) := by decide +kernel
theorem dX8_waits_17 : decode cX8_waits 17 = .ok (.sipush (-1001), 3) := by decide +kernel
theorem dX8_waits_20 : decode cX8_waits 20 = .ok (.ireturn, 1) := by decide +kernel
theorem dX8_waits_21 : decode cX8_waits 21 = .ok (.aload_n 0, 1) := by decide +kernel
theorem dX8_waits_22 : decode cX8_waits 22 = .ok (.iload_n 1, 1) := by decide +kernel
theorem dX8_waits_23 : decode cX8_waits 23 = .ok (.iload_n 2, 1) := by decide +kernel
theorem dX8_waits_24 : decode cX8_waits 24 = .ok (.invokevirtual 234, 3) := by decide +kernel
theorem dX8_waits_27 : decode cX8_waits 27 = .ok (.ifCond .eq 51, 3) := by decide +kernel
theorem dX8_waits_30 : decode cX8_waits 30 = .ok (.aload_n 0, 1) := by decide +kernel
theorem dX8_waits_31 : decode cX8_waits 31 = .ok (.iload_n 1, 1) := by decide +kernel
theorem dX8_waits_32 : decode cX8_waits 32 = .ok (.iload_n 3, 1) := by decide +kernel
theorem dX8_waits_33 : decode cX8_waits 33 = .ok (.iload 4, 2) := by decide +kernel
theorem dX8_waits_35 : decode cX8_waits 35 = .ok (.invokevirtual 264, 3) := by decide +kernel
theorem dX8_waits_38 : decode cX8_waits 38 = .ok (.ifCond .eq 40, 3) := by decide +kernel
theorem dX8_waits_41 : decode cX8_waits 41 = .ok (.iload 5, 2) := by decide +kernel
theorem dX8_waits_43 : decode cX8_waits 43 = .ok (.i2l, 1) := by decide +kernel
theorem dX8_waits_44 : decode cX8_waits 44 = .ok (.lconst 0, 1) := by decide +kernel
theorem dX8_waits_45 : decode cX8_waits 45 = .ok (.ldc2_w 240, 3) := by decide +kernel
theorem dX8_waits_48 : decode cX8_waits 48 = .ok (.invokestatic 107, 3) := by decide +kernel
theorem dX8_waits_51 : decode cX8_waits 51 = .ok (.ifCond .eq 27, 3) := by decide +kernel
theorem dX8_waits_54 : decode cX8_waits 54 = .ok (.iload 6, 2) := by decide +kernel
theorem dX8_waits_56 : decode cX8_waits 56 = .ok (.i2l, 1) := by decide +kernel
theorem dX8_waits_57 : decode cX8_waits 57 = .ok (.lconst 0, 1) := by decide +kernel
theorem dX8_waits_58 : decode cX8_waits 58 = .ok (.ldc2_w 311, 3) := by decide +kernel
theorem dX8_waits_61 : decode cX8_waits 61 = .ok (.invokestatic 107, 3) := by decide +kernel
theorem dX8_waits_64 : decode cX8_waits 64 = .ok (.ifCond .eq 14, 3) := by decide +kernel
theorem dX8_waits_67 : decode cX8_waits 67 = .ok (.iload 7, 2) := by decide +kernel
theorem dX8_waits_69 : decode cX8_waits 69 = .ok (.i2l, 1) := by decide +kernel
theorem dX8_waits_70 : decode cX8_waits 70 = .ok (.lconst 0, 1) := by decide +kernel
theorem dX8_waits_71 : decode cX8_waits 71 = .ok (.lconst 1, 1) := by decide +kernel
theorem dX8_waits_72 : decode cX8_waits 72 = .ok (.invokestatic 107, 3) := by decide +kernel
theorem dX8_waits_75 : decode cX8_waits 75 = .ok (.ifCond .ne 7, 3) := by decide +kernel
theorem dX8_waits_78 : decode cX8_waits 78 = .ok (.sipush (-1002), 3) := by decide +kernel
theorem dX8_waits_81 : decode cX8_waits 81 = .ok (.ireturn, 1) := by decide +kernel
theorem dX8_waits_82 : decode cX8_waits 82 = .ok (.iload 4, 2) := by decide +kernel
theorem dX8_waits_84 : decode cX8_waits 84 = .ok (.iconst 1, 1) := by decide +kernel
theorem dX8_waits_85 : decode cX8_waits 85 = .ok (.iand, 1) := by decide +kernel
theorem dX8_waits_86 : decode cX8_waits 86 = .ok (.iconst 1, 1) := by decide +kernel
theorem dX8_waits_87 : decode cX8_waits 87 = .ok (.if_icmp .ne 7, 3) := by decide +kernel
theorem dX8_waits_90 : decode cX8_waits 90 = .ok (.sipush (-1003), 3) := by decide +kernel
theorem dX8_waits_93 : decode cX8_waits 93 = .ok (.ireturn, 1) := by decide +kernel
theorem dX8_waits_94 : decode cX8_waits 94 = .ok (.aload_n 0, 1) := by decide +kernel
theorem dX8_waits_95 : decode cX8_waits 95 = .ok (.iload_n 1, 1) := by decide +kernel
theorem dX8_waits_96 : decode cX8_waits 96 = .ok (.invokevirtual 268, 3) := by decide +kernel
theorem dX8_waits_99 : decode cX8_waits 99 = .ok (.aload_n 0, 1) := by decide +kernel
theorem dX8_waits_100 : decode cX8_waits 100 = .ok (.getfield 38, 3) := by decide +kernel
theorem dX8_waits_103 : decode cX8_waits 103 = .ok (.iload_n 2, 1) := by decide +kernel
theorem dX8_waits_104 : decode cX8_waits 104 = .ok (.iload_n 3, 1) := by decide +kernel
theorem dX8_waits_105 : decode cX8_waits 105 = .ok (.iload 4, 2) := by decide +kernel
theorem dX8_waits_107 : decode cX8_waits 107 = .ok (.invokestatic 242, 3) := by decide +kernel
theorem dX8_waits_110 : decode cX8_waits 110 = .ok (.iaload, 1) := by decide +kernel
theorem dX8_waits_111 : decode cX8_waits 111 = .ok (.istore 8, 2) := by decide +kernel
theorem dX8_waits_113 : decode cX8_waits 113 = .ok (.iload 8, 2) := by decide +kernel
theorem dX8_waits_115 : decode cX8_waits 115 = .ok (.istore 9, 2) := by decide +kernel
theorem dX8_waits_117 : decode cX8_waits 117 = .ok (.iconst 0, 1) := by decide +kernel
theorem dX8_waits_118 : decode cX8_waits 118 = .ok (.istore 10, 2) := by decide +kernel
theorem dX8_waits_120 : decode cX8_waits 120 = .ok (.iconst 1, 1) := by decide +kernel
theorem dX8_waits_121 : decode cX8_waits 121 = .ok (.istore 11, 2) := by decide +kernel
theorem dX8_waits_123 : decode cX8_waits 123 = .ok (.iload 11, 2) := by decide +kernel
theorem dX8_waits_125 : decode cX8_waits 125 = .ok (.bipush 20, 2) := by decide +kernel
theorem dX8_waits_127 : decode cX8_waits 127 = .ok (.if_icmp .gt 64, 3) := by decide +kernel
theorem dX8_waits_130 : decode cX8_waits 130 = .ok (.sipush 1000, 3) := by decide +kernel
theorem dX8_waits_133 : decode cX8_waits 133 = .ok (.iload 6, 2) := by decide +kernel
theorem dX8_waits_135 : decode cX8_waits 135 = .ok (.imul, 1) := by decide +kernel
theorem dX8_waits_136 : decode cX8_waits 136 = .ok (.iload 5, 2) := by decide +kernel
theorem dX8_waits_138 : decode cX8_waits 138 = .ok (.aload_n 0, 1) := by decide +kernel
theorem dX8_waits_139 : decode cX8_waits 139 = .ok (.iload_n 1, 1) := by decide +kernel
theorem dX8_waits_140 : decode cX8_waits 140 = .ok (.iload_n 2, 1) := by decide +kernel
theorem dX8_waits_141 : decode cX8_waits 141 = .ok (.iload_n 3, 1) := by decide +kernel
theorem dX8_waits_142 : decode cX8_waits 142 = .ok (.invokevirtual 237, 3) := by decide +kernel
theorem dX8_waits_145 : decode cX8_waits 145 = .ok (.iload 8, 2) := by decide +kernel
theorem dX8_waits_147 : decode cX8_waits 147 = .ok (.invokestatic 245, 3) := by decide +kernel
theorem dX8_waits_150 : decode cX8_waits 150 = .ok (.iadd, 1) := by decide +kernel
theorem dX8_waits_151 : decode cX8_waits 151 = .ok (.istore 8, 2) := by decide +kernel
theorem dX8_waits_153 : decode cX8_waits 153 = .ok (.iload 8, 2) := by decide +kernel
theorem dX8_waits_155 : decode cX8_waits 155 = .ok (.iload 9, 2) := by decide +kernel
theorem dX8_waits_157 : decode cX8_waits 157 = .ok (.if_icmp .ge 8, 3) := by decide +kernel
theorem dX8_waits_160 : decode cX8_waits 160 = .ok (.iload 11, 2) := by decide +kernel
theorem dX8_waits_162 : decode cX8_waits 162 = .ok (.goto 5, 3) := by decide +kernel
theorem dX8_waits_165 : decode cX8_waits 165 = .ok (.iload 10, 2) := by decide +kernel
theorem dX8_waits_167 : decode cX8_waits 167 = .ok (.istore 10, 2) := by decide +kernel
theorem dX8_waits_169 : decode cX8_waits 169 = .ok (.iload 8, 2) := by decide +kernel
theorem dX8_waits_171 : decode cX8_waits 171 = .ok (.iload 9, 2) := by decide +kernel
theorem dX8_waits_173 : decode cX8_waits 173 = .ok (.if_icmp .ge 8, 3) := by decide +kernel
theorem dX8_waits_176 : decode cX8_waits 176 = .ok (.iload 8, 2) := by decide +kernel
theorem dX8_waits_178 : decode cX8_waits 178 = .ok (.goto 5, 3) := by decide +kernel
theorem dX8_waits_181 : decode cX8_waits 181 = .ok (.iload 9, 2) := by decide +kernel
theorem dX8_waits_183 : decode cX8_waits 183 = .ok (.istore 9, 2) := by decide +kernel
theorem dX8_waits_185 : decode cX8_waits 185 = .ok (.iinc 11 1, 3) := by decide +kernel
theorem dX8_waits_188 : decode cX8_waits 188 = .ok (.goto (-65), 3) := by decide +kernel
theorem dX8_waits_191 : decode cX8_waits 191 = .ok (.iload 7, 2) := by decide +kernel
theorem dX8_waits_193 : decode cX8_waits 193 = .ok (.ifCond .ne 8, 3) := by decide +kernel
theorem dX8_waits_196 : decode cX8_waits 196 = .ok (.iload 10, 2) := by decide +kernel
theorem dX8_waits_198 : decode cX8_waits 198 = .ok (.goto 5, 3) := by decide +kernel
theorem dX8_waits_201 : decode cX8_waits 201 = .ok (.iload 9, 2) := by decide +kernel
theorem dX8_waits_203 : decode cX8_waits 203 = .ok (.ireturn, 1) := by decide +kernel
theorem f_m_boy_rows : True := trivial
theorem dX8_boy_0 : decode cX8_boy 0 = .ok (.aload_n 0, 1) := by decide +kernel
theorem dX8_boy_1 : decode cX8_boy 1 = .ok (.iload_n 1, 1) := by decide +kernel
theorem dX8_boy_2 : decode cX8_boy 2 = .ok (.invokevirtual 206, 3) := by decide +kernel
theorem dX8_boy_5 : decode cX8_boy 5 = .ok (.ifCond .ne 7, 3) := by decide +kernel
theorem dX8_boy_8 : decode cX8_boy 8 = .ok (.sipush (-1001), 3) := by decide +kernel
theorem dX8_boy_11 : decode cX8_boy 11 = .ok (.ireturn, 1) := by decide +kernel
theorem dX8_boy_12 : decode cX8_boy 12 = .ok (.aload_n 0, 1) := by decide +kernel
theorem dX8_boy_13 : decode cX8_boy 13 = .ok (.iload_n 1, 1) := by decide +kernel
theorem dX8_boy_14 : decode cX8_boy 14 = .ok (.invokevirtual 268, 3) := by decide +kernel
theorem dX8_boy_17 : decode cX8_boy 17 = .ok (.aload_n 0, 1) := by decide +kernel
theorem dX8_boy_18 : decode cX8_boy 18 = .ok (.getfield 7, 3) := by decide +kernel
theorem dX8_boy_21 : decode cX8_boy 21 = .ok (.iload_n 1, 1) := by decide +kernel
theorem dX8_boy_22 : decode cX8_boy 22 = .ok (.iaload, 1) := by decide +kernel
theorem dX8_boy_23 : decode cX8_boy 23 = .ok (.istore_n 2, 1) := by decide +kernel
theorem dX8_boy_24 : decode cX8_boy 24 = .ok (.iconst 0, 1) := by decide +kernel
theorem dX8_boy_25 : decode cX8_boy 25 = .ok (.istore_n 3, 1) := by decide +kernel
theorem dX8_boy_26 : decode cX8_boy 26 = .ok (.iload_n 3, 1) := by decide +kernel
theorem dX8_boy_27 : decode cX8_boy 27 = .ok (.bipush 50, 2) := by decide +kernel
theorem dX8_boy_29 : decode cX8_boy 29 = .ok (.if_icmp .ge 82, 3) := by decide +kernel
theorem dX8_boy_32 : decode cX8_boy 32 = .ok (.iload_n 3, 1) := by decide +kernel
theorem dX8_boy_33 : decode cX8_boy 33 = .ok (.iconst 2, 1) := by decide +kernel
theorem dX8_boy_34 : decode cX8_boy 34 = .ok (.idiv, 1) := by decide +kernel
theorem dX8_boy_35 : decode cX8_boy 35 = .ok (.istore 4, 2) := by decide +kernel
theorem dX8_boy_37 : decode cX8_boy 37 = .ok (.iload 4, 2) := by decide +kernel
theorem dX8_boy_39 : decode cX8_boy 39 = .ok (.iload_n 2, 1) := by decide +kernel
theorem dX8_boy_40 : decode cX8_boy 40 = .ok (.if_icmp .ge 34, 3) := by decide +kernel
theorem dX8_boy_43 : decode cX8_boy 43 = .ok (.aload_n 0, 1) := by decide +kernel
theorem dX8_boy_44 : decode cX8_boy 44 = .ok (.iload_n 1, 1) := by decide +kernel
theorem dX8_boy_45 : decode cX8_boy 45 = .ok (.iconst 0, 1) := by decide +kernel
theorem dX8_boy_46 : decode cX8_boy 46 = .ok (.iload 4, 2) := by decide +kernel
theorem dX8_boy_48 : decode cX8_boy 48 = .ok (.iload_n 2, 1) := by decide +kernel
theorem dX8_boy_49 : decode cX8_boy 49 = .ok (.if_icmp .ge 8, 3) := by decide +kernel
theorem dX8_boy_52 : decode cX8_boy 52 = .ok (.iload 4, 2) := by decide +kernel
theorem dX8_boy_54 : decode cX8_boy 54 = .ok (.goto 4, 3) := by decide +kernel
theorem dX8_boy_58 : decode cX8_boy 58 = .ok (.invokevirtual 237, 3) := by decide +kernel
theorem dX8_boy_61 : decode cX8_boy 61 = .ok (.aload_n 0, 1) := by decide +kernel
theorem dX8_boy_62 : decode cX8_boy 62 = .ok (.getfield 47, 3) := by decide +kernel
theorem dX8_boy_65 : decode cX8_boy 65 = .ok (.iconst 0, 1) := by decide +kernel
theorem dX8_boy_66 : decode cX8_boy 66 = .ok (.iaload, 1) := by decide +kernel
theorem dX8_boy_67 : decode cX8_boy 67 = .ok (.if_icmp .ge 7, 3) := by decide +kernel
theorem dX8_boy_70 : decode cX8_boy 70 = .ok (.iconst 1, 1) := by decide +kernel
theorem dX8_boy_71 : decode cX8_boy 71 = .ok (.goto 4, 3) := by decide +kernel
theorem dX8_boy_74 : decode cX8_boy 74 = .ok (.iconst 0, 1) := by decide +kernel
theorem dX8_boy_75 : decode cX8_boy 75 = .ok (.istore 5, 2) := by decide +kernel
theorem dX8_boy_77 : decode cX8_boy 77 = .ok (.aload_n 0, 1) := by decide +kernel
theorem dX8_boy_78 : decode cX8_boy 78 = .ok (.getfield 78, 3) := by decide +kernel
theorem dX8_boy_81 : decode cX8_boy 81 = .ok (.iload_n 3, 1) := by decide +kernel
theorem dX8_boy_82 : decode cX8_boy 82 = .ok (.iload 5, 2) := by decide +kernel
theorem dX8_boy_84 : decode cX8_boy 84 = .ok (.ifCond .eq 14, 3) := by decide +kernel
theorem dX8_boy_87 : decode cX8_boy 87 = .ok (.aload_n 0, 1) := by decide +kernel
theorem dX8_boy_88 : decode cX8_boy 88 = .ok (.iload_n 1, 1) := by decide +kernel
theorem dX8_boy_89 : decode cX8_boy 89 = .ok (.iconst 0, 1) := by decide +kernel
theorem dX8_boy_90 : decode cX8_boy 90 = .ok (.iload 4, 2) := by decide +kernel
theorem dX8_boy_92 : decode cX8_boy 92 = .ok (.invokevirtual 237, 3) := by decide +kernel
theorem dX8_boy_95 : decode cX8_boy 95 = .ok (.goto 9, 3) := by decide +kernel
theorem dX8_boy_98 : decode cX8_boy 98 = .ok (.aload_n 0, 1) := by decide +kernel
theorem dX8_boy_99 : decode cX8_boy 99 = .ok (.getfield 47, 3) := by decide +kernel
theorem dX8_boy_102 : decode cX8_boy 102 = .ok (.iconst 0, 1) := by decide +kernel
theorem dX8_boy_103 : decode cX8_boy 103 = .ok (.iaload, 1) := by decide +kernel
theorem dX8_boy_104 : decode cX8_boy 104 = .ok (.iastore, 1) := by decide +kernel
theorem dX8_boy_105 : decode cX8_boy 105 = .ok (.iinc 3 1, 3) := by decide +kernel
theorem dX8_boy_108 : decode cX8_boy 108 = .ok (.goto (-82), 3) := by decide +kernel
theorem dX8_boy_111 : decode cX8_boy 111 = .ok (.iload_n 2, 1) := by decide +kernel
theorem dX8_boy_112 : decode cX8_boy 112 = .ok (.iconst 1, 1) := by decide +kernel
theorem dX8_boy_113 : decode cX8_boy 113 = .ok (.isub, 1) := by decide +kernel
theorem dX8_boy_114 : decode cX8_boy 114 = .ok (.istore_n 3, 1) := by decide +kernel
theorem dX8_boy_115 : decode cX8_boy 115 = .ok (.iload_n 3, 1) := by decide +kernel
theorem dX8_boy_116 : decode cX8_boy 116 = .ok (.ifCond .lt 154, 3) := by decide +kernel
theorem dX8_boy_119 : decode cX8_boy 119 = .ok (.iconst 0, 1) := by decide +kernel
theorem dX8_boy_120 : decode cX8_boy 120 = .ok (.istore 4, 2) := by decide +kernel
theorem dX8_boy_122 : decode cX8_boy 122 = .ok (.iload 4, 2) := by decide +kernel
theorem dX8_boy_124 : decode cX8_boy 124 = .ok (.bipush 50, 2) := by decide +kernel
theorem dX8_boy_126 : decode cX8_boy 126 = .ok (.if_icmp .ge 108, 3) := by decide +kernel
theorem dX8_boy_129 : decode cX8_boy 129 = .ok (.iload 4, 2) := by decide +kernel
theorem dX8_boy_131 : decode cX8_boy 131 = .ok (.iconst 2, 1) := by decide +kernel
theorem dX8_boy_132 : decode cX8_boy 132 = .ok (.idiv, 1) := by decide +kernel
theorem dX8_boy_133 : decode cX8_boy 133 = .ok (.istore 5, 2) := by decide +kernel
theorem dX8_boy_135 : decode cX8_boy 135 = .ok (.iload 5, 2) := by decide +kernel
theorem dX8_boy_137 : decode cX8_boy 137 = .ok (.iload_n 2, 1) := by decide +kernel
theorem dX8_boy_138 : decode cX8_boy 138 = .ok (.if_icmp .ge 21, 3) := by decide +kernel
theorem dX8_boy_141 : decode cX8_boy 141 = .ok (.aload_n 0, 1) := by decide +kernel
theorem dX8_boy_142 : decode cX8_boy 142 = .ok (.iload_n 1, 1) := by decide +kernel
theorem dX8_boy_143 : decode cX8_boy 143 = .ok (.iconst 0, 1) := by decide +kernel
theorem dX8_boy_144 : decode cX8_boy 144 = .ok (.iload_n 3, 1) := by decide +kernel
theorem dX8_boy_145 : decode cX8_boy 145 = .ok (.invokevirtual 237, 3) := by decide +kernel
theorem dX8_boy_148 : decode cX8_boy 148 = .ok (.aload_n 0, 1) := by decide +kernel
theorem dX8_boy_149 : decode cX8_boy 149 = .ok (.iload_n 1, 1) := by decide +kernel
theorem dX8_boy_150 : decode cX8_boy 150 = .ok (.iconst 0, 1) := by decide +kernel
theorem dX8_boy_151 : decode cX8_boy 151 = .ok (.iload 5, 2) := by decide +kernel
theorem dX8_boy_153 : decode cX8_boy 153 = .ok (.invokevirtual 237, 3) := by decide +kernel
theorem dX8_boy_156 : decode cX8_boy 156 = .ok (.if_icmp .ge 7, 3) := by decide +kernel
theorem dX8_boy_159 : decode cX8_boy 159 = .ok (.iconst 1, 1) := by decide +kernel
theorem dX8_boy_160 : decode cX8_boy 160 = .ok (.goto 4, 3) := by decide +kernel
theorem dX8_boy_163 : decode cX8_boy 163 = .ok (.iconst 0, 1) := by decide +kernel
theorem dX8_boy_164 : decode cX8_boy 164 = .ok (.istore 6, 2) := by decide +kernel
theorem dX8_boy_166 : decode cX8_boy 166 = .ok (.aload_n 0, 1) := by decide +kernel
theorem dX8_boy_167 : decode cX8_boy 167 = .ok (.getfield 78, 3) := by decide +kernel
theorem dX8_boy_170 : decode cX8_boy 170 = .ok (.iconst 2, 1) := by decide +kernel
theorem dX8_boy_171 : decode cX8_boy 171 = .ok (.iload 6, 2) := by decide +kernel
theorem dX8_boy_173 : decode cX8_boy 173 = .ok (.ifCond .eq 7, 3) := by decide +kernel
theorem dX8_boy_176 : decode cX8_boy 176 = .ok (.iload_n 3, 1) := by decide +kernel
theorem dX8_boy_177 : decode cX8_boy 177 = .ok (.goto 5, 3) := by decide +kernel
theorem dX8_boy_180 : decode cX8_boy 180 = .ok (.iload 5, 2) := by decide +kernel
theorem dX8_boy_182 : decode cX8_boy 182 = .ok (.imul, 1) := by decide +kernel
theorem dX8_boy_183 : decode cX8_boy 183 = .ok (.iconst 1, 1) := by decide +kernel
theorem dX8_boy_184 : decode cX8_boy 184 = .ok (.iadd, 1) := by decide +kernel
theorem dX8_boy_185 : decode cX8_boy 185 = .ok (.iaload, 1) := by decide +kernel
theorem dX8_boy_186 : decode cX8_boy 186 = .ok (.istore 7, 2) := by decide +kernel
theorem dX8_boy_188 : decode cX8_boy 188 = .ok (.aload_n 0, 1) := by decide +kernel
theorem dX8_boy_189 : decode cX8_boy 189 = .ok (.getfield 81, 3) := by decide +kernel
theorem dX8_boy_192 : decode cX8_boy 192 = .ok (.iload 4, 2) := by decide +kernel
theorem dX8_boy_194 : decode cX8_boy 194 = .ok (.aload_n 0, 1) := by decide +kernel
theorem dX8_boy_195 : decode cX8_boy 195 = .ok (.iload_n 1, 1) := by decide +kernel
theorem dX8_boy_196 : decode cX8_boy 196 = .ok (.iload_n 3, 1) := by decide +kernel
theorem dX8_boy_197 : decode cX8_boy 197 = .ok (.iload 4, 2) := by decide +kernel
theorem dX8_boy_199 : decode cX8_boy 199 = .ok (.iconst 2, 1) := by decide +kernel
theorem dX8_boy_200 : decode cX8_boy 200 = .ok (.irem, 1) := by decide +kernel
theorem dX8_boy_201 : decode cX8_boy 201 = .ok (.iconst 1, 1) := by decide +kernel
theorem dX8_boy_202 : decode cX8_boy 202 = .ok (.if_icmp .ne 7, 3) := by decide +kernel
theorem dX8_boy_205 : decode cX8_boy 205 = .ok (.iconst 1, 1) := by decide +kernel
theorem dX8_boy_206 : decode cX8_boy 206 = .ok (.goto 4, 3) := by decide +kernel
theorem dX8_boy_209 : decode cX8_boy 209 = .ok (.iconst 0, 1) := by decide +kernel
theorem dX8_boy_210 : decode cX8_boy 210 = .ok (.invokevirtual 219, 3) := by decide +kernel
theorem dX8_boy_213 : decode cX8_boy 213 = .ok (.iload 7, 2) := by decide +kernel
theorem dX8_boy_215 : decode cX8_boy 215 = .ok (.aload_n 0, 1) := by decide +kernel
theorem dX8_boy_216 : decode cX8_boy 216 = .ok (.getfield 78, 3) := by decide +kernel
theorem dX8_boy_219 : decode cX8_boy 219 = .ok (.iconst 2, 1) := by decide +kernel
theorem dX8_boy_220 : decode cX8_boy 220 = .ok (.iload 5, 2) := by decide +kernel
theorem dX8_boy_222 : decode cX8_boy 222 = .ok (.imul, 1) := by decide +kernel
theorem dX8_boy_223 : decode cX8_boy 223 = .ok (.iaload, 1) := by decide +kernel
theorem dX8_boy_224 : decode cX8_boy 224 = .ok (.invokestatic 245, 3) := by decide +kernel
theorem dX8_boy_227 : decode cX8_boy 227 = .ok (.iastore, 1) := by decide +kernel
theorem dX8_boy_228 : decode cX8_boy 228 = .ok (.iinc 4 1, 3) := by decide +kernel
theorem dX8_boy_231 : decode cX8_boy 231 = .ok (.goto (-109), 3) := by decide +kernel
theorem dX8_boy_234 : decode cX8_boy 234 = .ok (.iconst 0, 1) := by decide +kernel
theorem dX8_boy_235 : decode cX8_boy 235 = .ok (.istore 4, 2) := by decide +kernel
theorem dX8_boy_237 : decode cX8_boy 237 = .ok (.iload 4, 2) := by decide +kernel
theorem dX8_boy_239 : decode cX8_boy 239 = .ok (.bipush 50, 2) := by decide +kernel
theorem dX8_boy_241 : decode cX8_boy 241 = .ok (.if_icmp .ge 23, 3) := by decide +kernel
theorem dX8_boy_244 : decode cX8_boy 244 = .ok (.aload_n 0, 1) := by decide +kernel
theorem dX8_boy_245 : decode cX8_boy 245 = .ok (.getfield 78, 3) := by decide +kernel
theorem dX8_boy_248 : decode cX8_boy 248 = .ok (.iload 4, 2) := by decide +kernel
theorem dX8_boy_250 : decode cX8_boy 250 = .ok (.aload_n 0, 1) := by decide +kernel
theorem dX8_boy_251 : decode cX8_boy 251 = .ok (.getfield 81, 3) := by decide +kernel
theorem dX8_boy_254 : decode cX8_boy 254 = .ok (.iload 4, 2) := by decide +kernel
theorem dX8_boy_256 : decode cX8_boy 256 = .ok (.iaload, 1) := by decide +kernel
theorem dX8_boy_257 : decode cX8_boy 257 = .ok (.iastore, 1) := by decide +kernel
theorem dX8_boy_258 : decode cX8_boy 258 = .ok (.iinc 4 1, 3) := by decide +kernel
theorem dX8_boy_261 : decode cX8_boy 261 = .ok (.goto (-24), 3) := by decide +kernel
theorem dX8_boy_264 : decode cX8_boy 264 = .ok (.iinc 3 (-1), 3) := by decide +kernel
theorem dX8_boy_267 : decode cX8_boy 267 = .ok (.goto (-152), 3) := by decide +kernel
theorem dX8_boy_270 : decode cX8_boy 270 = .ok (.aload_n 0, 1) := by decide +kernel
theorem dX8_boy_271 : decode cX8_boy 271 = .ok (.getfield 78, 3) := by decide +kernel
theorem dX8_boy_274 : decode cX8_boy 274 = .ok (.bipush 48, 2) := by decide +kernel
theorem dX8_boy_276 : decode cX8_boy 276 = .ok (.iaload, 1) := by decide +kernel
theorem dX8_boy_277 : decode cX8_boy 277 = .ok (.ireturn, 1) := by decide +kernel

theorem dX11_readExpression_0 : decode cX11_readExpression 0 = .ok (.aload_n 0, 1) := by decide +kernel
theorem dX11_readExpression_1 : decode cX11_readExpression 1 = .ok (.iconst 0, 1) := by decide +kernel
theorem dX11_readExpression_2 : decode cX11_readExpression 2 = .ok (.putfield 217, 3) := by decide +kernel
theorem dX11_readExpression_5 : decode cX11_readExpression 5 = .ok (.aload_n 0, 1) := by decide +kernel
theorem dX11_readExpression_6 : decode cX11_readExpression 6 = .ok (.iconst 0, 1) := by decide +kernel
theorem dX11_readExpression_7 : decode cX11_readExpression 7 = .ok (.putfield 249, 3) := by decide +kernel
theorem dX11_readExpression_10 : decode cX11_readExpression 10 = .ok (.aload_n 0, 1) := by decide +kernel
theorem dX11_readExpression_11 : decode cX11_readExpression 11 = .ok (.iconst 0, 1) := by decide +kernel
theorem dX11_readExpression_12 : decode cX11_readExpression 12 = .ok (.putfield 255, 3) := by decide +kernel
theorem dX11_readExpression_15 : decode cX11_readExpression 15 = .ok (.aload_n 0, 1) := by decide +kernel
theorem dX11_readExpression_16 : decode cX11_readExpression 16 = .ok (.iconst 0, 1) := by decide +kernel
theorem dX11_readExpression_17 : decode cX11_readExpression 17 = .ok (.putfield 252, 3) := by decide +kernel
theorem dX11_readExpression_20 : decode cX11_readExpression 20 = .ok (.iconst 0, 1) := by decide +kernel
theorem dX11_readExpression_21 : decode cX11_readExpression 21 = .ok (.istore_n 1, 1) := by decide +kernel
theorem dX11_readExpression_22 : decode cX11_readExpression 22 = .ok (.iconst 1, 1) := by decide +kernel
theorem dX11_readExpression_23 : decode cX11_readExpression 23 = .ok (.istore_n 2, 1) := by decide +kernel
theorem dX11_readExpression_24 : decode cX11_readExpression 24 = .ok (.iload_n 2, 1) := by decide +kernel
theorem dX11_readExpression_25 : decode cX11_readExpression 25 = .ok (.ifCond .eq 176, 3) := by decide +kernel
theorem dX11_readExpression_28 : decode cX11_readExpression 28 = .ok (.aload_n 0, 1) := by decide +kernel
theorem dX11_readExpression_29 : decode cX11_readExpression 29 = .ok (.getfield 188, 3) := by decide +kernel
theorem dX11_readExpression_32 : decode cX11_readExpression 32 = .ok (.ifCond .ne 169, 3) := by decide +kernel
theorem dX11_readExpression_35 : decode cX11_readExpression 35 = .ok (.iload_n 1, 1) := by decide +kernel
theorem dX11_readExpression_36 : decode cX11_readExpression 36 = .ok (.ifCond .ne 26, 3) := by decide +kernel
theorem dX11_readExpression_39 : decode cX11_readExpression 39 = .ok (.aload_n 0, 1) := by decide +kernel
theorem dX11_readExpression_40 : decode cX11_readExpression 40 = .ok (.invokevirtual 264, 3) := by decide +kernel
theorem dX11_readExpression_43 : decode cX11_readExpression 43 = .ok (.istore_n 1, 1) := by decide +kernel
theorem dX11_readExpression_44 : decode cX11_readExpression 44 = .ok (.iload_n 1, 1) := by decide +kernel
theorem dX11_readExpression_45 : decode cX11_readExpression 45 = .ok (.ifCond .eq (-21), 3) := by decide +kernel
theorem dX11_readExpression_48 : decode cX11_readExpression 48 = .ok (.aload_n 0, 1) := by decide +kernel
theorem dX11_readExpression_49 : decode cX11_readExpression 49 = .ok (.getfield 188, 3) := by decide +kernel
theorem dX11_readExpression_52 : decode cX11_readExpression 52 = .ok (.ifCond .ne (-28), 3) := by decide +kernel
theorem dX11_readExpression_55 : decode cX11_readExpression 55 = .ok (.aload_n 0, 1) := by decide +kernel
theorem dX11_readExpression_56 : decode cX11_readExpression 56 = .ok (.invokevirtual 268, 3) := by decide +kernel
theorem dX11_readExpression_59 : decode cX11_readExpression 59 = .ok (.goto (-35), 3) := by decide +kernel
theorem dX11_readExpression_62 : decode cX11_readExpression 62 = .ok (.aload_n 0, 1) := by decide +kernel
theorem dX11_readExpression_63 : decode cX11_readExpression 63 = .ok (.bipush 43, 2) := by decide +kernel
theorem dX11_readExpression_65 : decode cX11_readExpression 65 = .ok (.invokevirtual 204, 3) := by decide +kernel
theorem dX11_readExpression_68 : decode cX11_readExpression 68 = .ok (.ifCond .eq 8, 3) := by decide +kernel
theorem dX11_readExpression_71 : decode cX11_readExpression 71 = .ok (.bipush 7, 2) := by decide +kernel
theorem dX11_readExpression_73 : decode cX11_readExpression 73 = .ok (.goto 32, 3) := by decide +kernel
theorem dX11_readExpression_76 : decode cX11_readExpression 76 = .ok (.aload_n 0, 1) := by decide +kernel
theorem dX11_readExpression_77 : decode cX11_readExpression 77 = .ok (.bipush 45, 2) := by decide +kernel
theorem dX11_readExpression_79 : decode cX11_readExpression 79 = .ok (.invokevirtual 204, 3) := by decide +kernel
theorem dX11_readExpression_82 : decode cX11_readExpression 82 = .ok (.ifCond .eq 8, 3) := by decide +kernel
theorem dX11_readExpression_85 : decode cX11_readExpression 85 = .ok (.bipush 8, 2) := by decide +kernel
theorem dX11_readExpression_87 : decode cX11_readExpression 87 = .ok (.goto 18, 3) := by decide +kernel
theorem dX11_readExpression_90 : decode cX11_readExpression 90 = .ok (.aload_n 0, 1) := by decide +kernel
theorem dX11_readExpression_91 : decode cX11_readExpression 91 = .ok (.bipush 42, 2) := by decide +kernel
theorem dX11_readExpression_93 : decode cX11_readExpression 93 = .ok (.invokevirtual 204, 3) := by decide +kernel
theorem dX11_readExpression_96 : decode cX11_readExpression 96 = .ok (.ifCond .eq 8, 3) := by decide +kernel
theorem dX11_readExpression_99 : decode cX11_readExpression 99 = .ok (.bipush 9, 2) := by decide +kernel
theorem dX11_readExpression_101 : decode cX11_readExpression 101 = .ok (.goto 4, 3) := by decide +kernel
theorem dX11_readExpression_104 : decode cX11_readExpression 104 = .ok (.iconst 0, 1) := by decide +kernel
theorem dX11_readExpression_105 : decode cX11_readExpression 105 = .ok (.istore_n 3, 1) := by decide +kernel
theorem dX11_readExpression_106 : decode cX11_readExpression 106 = .ok (.iload_n 3, 1) := by decide +kernel
theorem dX11_readExpression_107 : decode cX11_readExpression 107 = .ok (.ifCond .le 37, 3) := by decide +kernel
theorem dX11_readExpression_110 : decode cX11_readExpression 110 = .ok (.aload_n 0, 1) := by decide +kernel
theorem dX11_readExpression_111 : decode cX11_readExpression 111 = .ok (.invokevirtual 271, 3) := by decide +kernel
theorem dX11_readExpression_114 : decode cX11_readExpression 114 = .ok (.aload_n 0, 1) := by decide +kernel
theorem dX11_readExpression_115 : decode cX11_readExpression 115 = .ok (.getfield 188, 3) := by decide +kernel
theorem dX11_readExpression_118 : decode cX11_readExpression 118 = .ok (.ifCond .le 4, 3) := by decide +kernel
theorem dX11_readExpression_121 : decode cX11_readExpression 121 = .ok (.return_, 1) := by decide +kernel
theorem dX11_readExpression_122 : decode cX11_readExpression 122 = .ok (.aload_n 0, 1) := by decide +kernel
theorem dX11_readExpression_123 : decode cX11_readExpression 123 = .ok (.iload_n 3, 1) := by decide +kernel
theorem dX11_readExpression_124 : decode cX11_readExpression 124 = .ok (.invokestatic 258, 3) := by decide +kernel
theorem dX11_readExpression_127 : decode cX11_readExpression 127 = .ok (.invokevirtual 274, 3) := by decide +kernel
theorem dX11_readExpression_130 : decode cX11_readExpression 130 = .ok (.aload_n 0, 1) := by decide +kernel
theorem dX11_readExpression_131 : decode cX11_readExpression 131 = .ok (.iload_n 3, 1) := by decide +kernel
theorem dX11_readExpression_132 : decode cX11_readExpression 132 = .ok (.invokevirtual 277, 3) := by decide +kernel
theorem dX11_readExpression_135 : decode cX11_readExpression 135 = .ok (.aload_n 0, 1) := by decide +kernel
theorem dX11_readExpression_136 : decode cX11_readExpression 136 = .ok (.invokevirtual 201, 3) := by decide +kernel
theorem dX11_readExpression_139 : decode cX11_readExpression 139 = .ok (.iconst 0, 1) := by decide +kernel
theorem dX11_readExpression_140 : decode cX11_readExpression 140 = .ok (.istore_n 1, 1) := by decide +kernel
theorem dX11_readExpression_141 : decode cX11_readExpression 141 = .ok (.goto 57, 3) := by decide +kernel
theorem dX11_readExpression_144 : decode cX11_readExpression 144 = .ok (.aload_n 0, 1) := by decide +kernel
theorem dX11_readExpression_145 : decode cX11_readExpression 145 = .ok (.bipush 41, 2) := by decide +kernel
theorem dX11_readExpression_147 : decode cX11_readExpression 147 = .ok (.invokevirtual 204, 3) := by decide +kernel
theorem dX11_readExpression_150 : decode cX11_readExpression 150 = .ok (.ifCond .eq 46, 3) := by decide +kernel
theorem dX11_readExpression_153 : decode cX11_readExpression 153 = .ok (.aload_n 0, 1) := by decide +kernel
theorem dX11_readExpression_154 : decode cX11_readExpression 154 = .ok (.invokevirtual 280, 3) := by decide +kernel
theorem dX11_readExpression_157 : decode cX11_readExpression 157 = .ok (.ifCond .eq 39, 3) := by decide +kernel
theorem dX11_readExpression_160 : decode cX11_readExpression 160 = .ok (.aload_n 0, 1) := by decide +kernel
theorem dX11_readExpression_161 : decode cX11_readExpression 161 = .ok (.iconst 1, 1) := by decide +kernel
theorem dX11_readExpression_162 : decode cX11_readExpression 162 = .ok (.invokevirtual 274, 3) := by decide +kernel
theorem dX11_readExpression_165 : decode cX11_readExpression 165 = .ok (.aload_n 0, 1) := by decide +kernel
theorem dX11_readExpression_166 : decode cX11_readExpression 166 = .ok (.dup, 1) := by decide +kernel
theorem dX11_readExpression_167 : decode cX11_readExpression 167 = .ok (.getfield 255, 3) := by decide +kernel
theorem dX11_readExpression_170 : decode cX11_readExpression 170 = .ok (.iconst 1, 1) := by decide +kernel
theorem dX11_readExpression_171 : decode cX11_readExpression 171 = .ok (.isub, 1) := by decide +kernel
theorem dX11_readExpression_172 : decode cX11_readExpression 172 = .ok (.putfield 255, 3) := by decide +kernel
theorem dX11_readExpression_175 : decode cX11_readExpression 175 = .ok (.aload_n 0, 1) := by decide +kernel
theorem dX11_readExpression_176 : decode cX11_readExpression 176 = .ok (.dup, 1) := by decide +kernel
theorem dX11_readExpression_177 : decode cX11_readExpression 177 = .ok (.getfield 252, 3) := by decide +kernel
theorem dX11_readExpression_180 : decode cX11_readExpression 180 = .ok (.iconst 1, 1) := by decide +kernel
theorem dX11_readExpression_181 : decode cX11_readExpression 181 = .ok (.isub, 1) := by decide +kernel
theorem dX11_readExpression_182 : decode cX11_readExpression 182 = .ok (.putfield 252, 3) := by decide +kernel
theorem dX11_readExpression_185 : decode cX11_readExpression 185 = .ok (.aload_n 0, 1) := by decide +kernel
theorem dX11_readExpression_186 : decode cX11_readExpression 186 = .ok (.invokevirtual 201, 3) := by decide +kernel
theorem dX11_readExpression_189 : decode cX11_readExpression 189 = .ok (.aload_n 0, 1) := by decide +kernel
theorem dX11_readExpression_190 : decode cX11_readExpression 190 = .ok (.invokevirtual 268, 3) := by decide +kernel
theorem dX11_readExpression_193 : decode cX11_readExpression 193 = .ok (.goto 5, 3) := by decide +kernel
theorem dX11_readExpression_196 : decode cX11_readExpression 196 = .ok (.iconst 0, 1) := by decide +kernel
theorem dX11_readExpression_197 : decode cX11_readExpression 197 = .ok (.istore_n 2, 1) := by decide +kernel
theorem dX11_readExpression_198 : decode cX11_readExpression 198 = .ok (.goto (-174), 3) := by decide +kernel
theorem dX11_readExpression_201 : decode cX11_readExpression 201 = .ok (.aload_n 0, 1) := by decide +kernel
theorem dX11_readExpression_202 : decode cX11_readExpression 202 = .ok (.getfield 188, 3) := by decide +kernel
theorem dX11_readExpression_205 : decode cX11_readExpression 205 = .ok (.ifCond .le 4, 3) := by decide +kernel
theorem dX11_readExpression_208 : decode cX11_readExpression 208 = .ok (.return_, 1) := by decide +kernel
theorem dX11_readExpression_209 : decode cX11_readExpression 209 = .ok (.aload_n 0, 1) := by decide +kernel
theorem dX11_readExpression_210 : decode cX11_readExpression 210 = .ok (.iconst 1, 1) := by decide +kernel
theorem dX11_readExpression_211 : decode cX11_readExpression 211 = .ok (.invokevirtual 274, 3) := by decide +kernel
theorem dX11_readExpression_214 : decode cX11_readExpression 214 = .ok (.aload_n 0, 1) := by decide +kernel
theorem dX11_readExpression_215 : decode cX11_readExpression 215 = .ok (.getfield 255, 3) := by decide +kernel
theorem dX11_readExpression_218 : decode cX11_readExpression 218 = .ok (.ifCond .le 7, 3) := by decide +kernel
theorem dX11_readExpression_221 : decode cX11_readExpression 221 = .ok (.aload_n 0, 1) := by decide +kernel
theorem dX11_readExpression_222 : decode cX11_readExpression 222 = .ok (.invokevirtual 198, 3) := by decide +kernel
theorem dX11_readExpression_225 : decode cX11_readExpression 225 = .ok (.return_, 1) := by decide +kernel

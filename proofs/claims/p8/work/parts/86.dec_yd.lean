theorem dX11_holdOf_0 : decode cX11_holdOf 0 = .ok (.iconst (-1), 1) := by decide +kernel
theorem dX11_holdOf_1 : decode cX11_holdOf 1 = .ok (.istore_n 3, 1) := by decide +kernel
theorem dX11_holdOf_2 : decode cX11_holdOf 2 = .ok (.iconst 0, 1) := by decide +kernel
theorem dX11_holdOf_3 : decode cX11_holdOf 3 = .ok (.istore 4, 2) := by decide +kernel
theorem dX11_holdOf_5 : decode cX11_holdOf 5 = .ok (.iload 4, 2) := by decide +kernel
theorem dX11_holdOf_7 : decode cX11_holdOf 7 = .ok (.aload_n 0, 1) := by decide +kernel
theorem dX11_holdOf_8 : decode cX11_holdOf 8 = .ok (.getfield 322, 3) := by decide +kernel
theorem dX11_holdOf_11 : decode cX11_holdOf 11 = .ok (.if_icmp .ge 54, 3) := by decide +kernel
theorem dX11_holdOf_14 : decode cX11_holdOf 14 = .ok (.aload_n 0, 1) := by decide +kernel
theorem dX11_holdOf_15 : decode cX11_holdOf 15 = .ok (.getfield 115, 3) := by decide +kernel
theorem dX11_holdOf_18 : decode cX11_holdOf 18 = .ok (.iload 4, 2) := by decide +kernel
theorem dX11_holdOf_20 : decode cX11_holdOf 20 = .ok (.iaload, 1) := by decide +kernel
theorem dX11_holdOf_21 : decode cX11_holdOf 21 = .ok (.iload_n 1, 1) := by decide +kernel
theorem dX11_holdOf_22 : decode cX11_holdOf 22 = .ok (.if_icmp .ne 37, 3) := by decide +kernel
theorem dX11_holdOf_25 : decode cX11_holdOf 25 = .ok (.aload_n 0, 1) := by decide +kernel
theorem dX11_holdOf_26 : decode cX11_holdOf 26 = .ok (.getfield 121, 3) := by decide +kernel
theorem dX11_holdOf_29 : decode cX11_holdOf 29 = .ok (.iload 4, 2) := by decide +kernel
theorem dX11_holdOf_31 : decode cX11_holdOf 31 = .ok (.iaload, 1) := by decide +kernel
theorem dX11_holdOf_32 : decode cX11_holdOf 32 = .ok (.iload_n 2, 1) := by decide +kernel
theorem dX11_holdOf_33 : decode cX11_holdOf 33 = .ok (.if_icmp .gt 26, 3) := by decide +kernel
theorem dX11_holdOf_36 : decode cX11_holdOf 36 = .ok (.iload_n 3, 1) := by decide +kernel
theorem dX11_holdOf_37 : decode cX11_holdOf 37 = .ok (.ifCond .lt 19, 3) := by decide +kernel
theorem dX11_holdOf_40 : decode cX11_holdOf 40 = .ok (.aload_n 0, 1) := by decide +kernel
theorem dX11_holdOf_41 : decode cX11_holdOf 41 = .ok (.getfield 121, 3) := by decide +kernel
theorem dX11_holdOf_44 : decode cX11_holdOf 44 = .ok (.iload 4, 2) := by decide +kernel
theorem dX11_holdOf_46 : decode cX11_holdOf 46 = .ok (.iaload, 1) := by decide +kernel
theorem dX11_holdOf_47 : decode cX11_holdOf 47 = .ok (.aload_n 0, 1) := by decide +kernel
theorem dX11_holdOf_48 : decode cX11_holdOf 48 = .ok (.getfield 121, 3) := by decide +kernel
theorem dX11_holdOf_51 : decode cX11_holdOf 51 = .ok (.iload_n 3, 1) := by decide +kernel
theorem dX11_holdOf_52 : decode cX11_holdOf 52 = .ok (.iaload, 1) := by decide +kernel
theorem dX11_holdOf_53 : decode cX11_holdOf 53 = .ok (.if_icmp .lt 6, 3) := by decide +kernel
theorem dX11_holdOf_56 : decode cX11_holdOf 56 = .ok (.iload 4, 2) := by decide +kernel
theorem dX11_holdOf_58 : decode cX11_holdOf 58 = .ok (.istore_n 3, 1) := by decide +kernel
theorem dX11_holdOf_59 : decode cX11_holdOf 59 = .ok (.iinc 4 1, 3) := by decide +kernel
theorem dX11_holdOf_62 : decode cX11_holdOf 62 = .ok (.goto (-57), 3) := by decide +kernel
theorem dX11_holdOf_65 : decode cX11_holdOf 65 = .ok (.iload_n 3, 1) := by decide +kernel
theorem dX11_holdOf_66 : decode cX11_holdOf 66 = .ok (.ifCond .ge 12, 3) := by decide +kernel
theorem dX11_holdOf_69 : decode cX11_holdOf 69 = .ok (.aload_n 0, 1) := by decide +kernel
theorem dX11_holdOf_70 : decode cX11_holdOf 70 = .ok (.getfield 109, 3) := by decide +kernel
theorem dX11_holdOf_73 : decode cX11_holdOf 73 = .ok (.iload_n 1, 1) := by decide +kernel
theorem dX11_holdOf_74 : decode cX11_holdOf 74 = .ok (.iaload, 1) := by decide +kernel
theorem dX11_holdOf_75 : decode cX11_holdOf 75 = .ok (.goto 9, 3) := by decide +kernel
theorem dX11_holdOf_78 : decode cX11_holdOf 78 = .ok (.aload_n 0, 1) := by decide +kernel
theorem dX11_holdOf_79 : decode cX11_holdOf 79 = .ok (.getfield 118, 3) := by decide +kernel
theorem dX11_holdOf_82 : decode cX11_holdOf 82 = .ok (.iload_n 3, 1) := by decide +kernel
theorem dX11_holdOf_83 : decode cX11_holdOf 83 = .ok (.iaload, 1) := by decide +kernel
theorem dX11_holdOf_84 : decode cX11_holdOf 84 = .ok (.ireturn, 1) := by decide +kernel
theorem dX11_factsOf_0 : decode cX11_factsOf 0 = .ok (.iconst (-1), 1) := by decide +kernel
theorem dX11_factsOf_1 : decode cX11_factsOf 1 = .ok (.istore 5, 2) := by decide +kernel
theorem dX11_factsOf_3 : decode cX11_factsOf 3 = .ok (.iconst (-1), 1) := by decide +kernel
theorem dX11_factsOf_4 : decode cX11_factsOf 4 = .ok (.istore 6, 2) := by decide +kernel
theorem dX11_factsOf_6 : decode cX11_factsOf 6 = .ok (.iconst 0, 1) := by decide +kernel
theorem dX11_factsOf_7 : decode cX11_factsOf 7 = .ok (.istore 7, 2) := by decide +kernel
theorem dX11_factsOf_9 : decode cX11_factsOf 9 = .ok (.iconst 0, 1) := by decide +kernel
theorem dX11_factsOf_10 : decode cX11_factsOf 10 = .ok (.istore 8, 2) := by decide +kernel
theorem dX11_factsOf_12 : decode cX11_factsOf 12 = .ok (.iconst 0, 1) := by decide +kernel
theorem dX11_factsOf_13 : decode cX11_factsOf 13 = .ok (.istore 9, 2) := by decide +kernel
theorem dX11_factsOf_15 : decode cX11_factsOf 15 = .ok (.iload 9, 2) := by decide +kernel
theorem dX11_factsOf_17 : decode cX11_factsOf 17 = .ok (.aload_n 0, 1) := by decide +kernel
theorem dX11_factsOf_18 : decode cX11_factsOf 18 = .ok (.getfield 319, 3) := by decide +kernel
theorem dX11_factsOf_21 : decode cX11_factsOf 21 = .ok (.if_icmp .ge 91, 3) := by decide +kernel
theorem dX11_factsOf_24 : decode cX11_factsOf 24 = .ok (.aload_n 0, 1) := by decide +kernel
theorem dX11_factsOf_25 : decode cX11_factsOf 25 = .ok (.getfield 94, 3) := by decide +kernel
theorem dX11_factsOf_28 : decode cX11_factsOf 28 = .ok (.iload 9, 2) := by decide +kernel
theorem dX11_factsOf_30 : decode cX11_factsOf 30 = .ok (.iaload, 1) := by decide +kernel
theorem dX11_factsOf_31 : decode cX11_factsOf 31 = .ok (.iload_n 3, 1) := by decide +kernel
theorem dX11_factsOf_32 : decode cX11_factsOf 32 = .ok (.if_icmp .ne 74, 3) := by decide +kernel
theorem dX11_factsOf_35 : decode cX11_factsOf 35 = .ok (.aload_n 0, 1) := by decide +kernel
theorem dX11_factsOf_36 : decode cX11_factsOf 36 = .ok (.getfield 97, 3) := by decide +kernel
theorem dX11_factsOf_39 : decode cX11_factsOf 39 = .ok (.iload 9, 2) := by decide +kernel
theorem dX11_factsOf_41 : decode cX11_factsOf 41 = .ok (.iaload, 1) := by decide +kernel
theorem dX11_factsOf_42 : decode cX11_factsOf 42 = .ok (.iload_n 1, 1) := by decide +kernel
theorem dX11_factsOf_43 : decode cX11_factsOf 43 = .ok (.if_icmp .ne 63, 3) := by decide +kernel
theorem dX11_factsOf_46 : decode cX11_factsOf 46 = .ok (.aload_n 0, 1) := by decide +kernel
theorem dX11_factsOf_47 : decode cX11_factsOf 47 = .ok (.getfield 100, 3) := by decide +kernel
theorem dX11_factsOf_50 : decode cX11_factsOf 50 = .ok (.iload 9, 2) := by decide +kernel
theorem dX11_factsOf_52 : decode cX11_factsOf 52 = .ok (.iaload, 1) := by decide +kernel
theorem dX11_factsOf_53 : decode cX11_factsOf 53 = .ok (.iload_n 2, 1) := by decide +kernel
theorem dX11_factsOf_54 : decode cX11_factsOf 54 = .ok (.if_icmp .ne 52, 3) := by decide +kernel
theorem dX11_factsOf_57 : decode cX11_factsOf 57 = .ok (.aload_n 0, 1) := by decide +kernel
theorem dX11_factsOf_58 : decode cX11_factsOf 58 = .ok (.getfield 112, 3) := by decide +kernel
theorem dX11_factsOf_61 : decode cX11_factsOf 61 = .ok (.iload 9, 2) := by decide +kernel
theorem dX11_factsOf_63 : decode cX11_factsOf 63 = .ok (.iaload, 1) := by decide +kernel
theorem dX11_factsOf_64 : decode cX11_factsOf 64 = .ok (.iconst 4, 1) := by decide +kernel
theorem dX11_factsOf_65 : decode cX11_factsOf 65 = .ok (.if_icmp .ne 6, 3) := by decide +kernel
theorem dX11_factsOf_68 : decode cX11_factsOf 68 = .ok (.goto 38, 3) := by decide +kernel
theorem dX11_factsOf_71 : decode cX11_factsOf 71 = .ok (.iinc 7 1, 3) := by decide +kernel
theorem dX11_factsOf_74 : decode cX11_factsOf 74 = .ok (.aload_n 0, 1) := by decide +kernel
theorem dX11_factsOf_75 : decode cX11_factsOf 75 = .ok (.iload 9, 2) := by decide +kernel
theorem dX11_factsOf_77 : decode cX11_factsOf 77 = .ok (.iload 4, 2) := by decide +kernel
theorem dX11_factsOf_79 : decode cX11_factsOf 79 = .ok (.invokevirtual 367, 3) := by decide +kernel
theorem dX11_factsOf_82 : decode cX11_factsOf 82 = .ok (.istore 10, 2) := by decide +kernel
theorem dX11_factsOf_84 : decode cX11_factsOf 84 = .ok (.iload 10, 2) := by decide +kernel
theorem dX11_factsOf_86 : decode cX11_factsOf 86 = .ok (.iload 5, 2) := by decide +kernel
theorem dX11_factsOf_88 : decode cX11_factsOf 88 = .ok (.if_icmp .gt 6, 3) := by decide +kernel
theorem dX11_factsOf_91 : decode cX11_factsOf 91 = .ok (.goto 15, 3) := by decide +kernel
theorem dX11_factsOf_94 : decode cX11_factsOf 94 = .ok (.iload 10, 2) := by decide +kernel
theorem dX11_factsOf_96 : decode cX11_factsOf 96 = .ok (.istore 5, 2) := by decide +kernel
theorem dX11_factsOf_98 : decode cX11_factsOf 98 = .ok (.iload 9, 2) := by decide +kernel
theorem dX11_factsOf_100 : decode cX11_factsOf 100 = .ok (.istore 6, 2) := by decide +kernel
theorem dX11_factsOf_102 : decode cX11_factsOf 102 = .ok (.iload 7, 2) := by decide +kernel
theorem dX11_factsOf_104 : decode cX11_factsOf 104 = .ok (.istore 8, 2) := by decide +kernel
theorem dX11_factsOf_106 : decode cX11_factsOf 106 = .ok (.iinc 9 1, 3) := by decide +kernel
theorem dX11_factsOf_109 : decode cX11_factsOf 109 = .ok (.goto (-94), 3) := by decide +kernel
theorem dX11_factsOf_112 : decode cX11_factsOf 112 = .ok (.iconst 0, 1) := by decide +kernel
theorem dX11_factsOf_113 : decode cX11_factsOf 113 = .ok (.istore 9, 2) := by decide +kernel
theorem dX11_factsOf_115 : decode cX11_factsOf 115 = .ok (.iload 9, 2) := by decide +kernel
theorem dX11_factsOf_117 : decode cX11_factsOf 117 = .ok (.bipush 6, 2) := by decide +kernel
theorem dX11_factsOf_119 : decode cX11_factsOf 119 = .ok (.if_icmp .ge 17, 3) := by decide +kernel
theorem dX11_factsOf_122 : decode cX11_factsOf 122 = .ok (.aload_n 0, 1) := by decide +kernel
theorem dX11_factsOf_123 : decode cX11_factsOf 123 = .ok (.getfield 133, 3) := by decide +kernel
theorem dX11_factsOf_126 : decode cX11_factsOf 126 = .ok (.iload 9, 2) := by decide +kernel
theorem dX11_factsOf_128 : decode cX11_factsOf 128 = .ok (.iconst 0, 1) := by decide +kernel
theorem dX11_factsOf_129 : decode cX11_factsOf 129 = .ok (.iastore, 1) := by decide +kernel
theorem dX11_factsOf_130 : decode cX11_factsOf 130 = .ok (.iinc 9 1, 3) := by decide +kernel
theorem dX11_factsOf_133 : decode cX11_factsOf 133 = .ok (.goto (-18), 3) := by decide +kernel
theorem dX11_factsOf_136 : decode cX11_factsOf 136 = .ok (.iload 6, 2) := by decide +kernel
theorem dX11_factsOf_138 : decode cX11_factsOf 138 = .ok (.ifCond .ge 4, 3) := by decide +kernel
theorem dX11_factsOf_141 : decode cX11_factsOf 141 = .ok (.return_, 1) := by decide +kernel
theorem dX11_factsOf_142 : decode cX11_factsOf 142 = .ok (.iload_n 1, 1) := by decide +kernel
theorem dX11_factsOf_143 : decode cX11_factsOf 143 = .ok (.iload_n 2, 1) := by decide +kernel
theorem dX11_factsOf_144 : decode cX11_factsOf 144 = .ok (.invokestatic 335, 3) := by decide +kernel
theorem dX11_factsOf_147 : decode cX11_factsOf 147 = .ok (.istore 9, 2) := by decide +kernel
theorem dX11_factsOf_149 : decode cX11_factsOf 149 = .ok (.aload_n 0, 1) := by decide +kernel
theorem dX11_factsOf_150 : decode cX11_factsOf 150 = .ok (.getfield 133, 3) := by decide +kernel
theorem dX11_factsOf_153 : decode cX11_factsOf 153 = .ok (.iconst 0, 1) := by decide +kernel
theorem dX11_factsOf_154 : decode cX11_factsOf 154 = .ok (.iload 5, 2) := by decide +kernel
theorem dX11_factsOf_156 : decode cX11_factsOf 156 = .ok (.aload_n 0, 1) := by decide +kernel
theorem dX11_factsOf_157 : decode cX11_factsOf 157 = .ok (.getfield 73, 3) := by decide +kernel
theorem dX11_factsOf_160 : decode cX11_factsOf 160 = .ok (.iload 9, 2) := by decide +kernel
theorem dX11_factsOf_162 : decode cX11_factsOf 162 = .ok (.iaload, 1) := by decide +kernel
theorem dX11_factsOf_163 : decode cX11_factsOf 163 = .ok (.if_icmp .ne 7, 3) := by decide +kernel
theorem dX11_factsOf_166 : decode cX11_factsOf 166 = .ok (.iconst 1, 1) := by decide +kernel
theorem dX11_factsOf_167 : decode cX11_factsOf 167 = .ok (.goto 4, 3) := by decide +kernel
theorem dX11_factsOf_170 : decode cX11_factsOf 170 = .ok (.iconst 0, 1) := by decide +kernel
theorem dX11_factsOf_171 : decode cX11_factsOf 171 = .ok (.iastore, 1) := by decide +kernel
theorem dX11_factsOf_172 : decode cX11_factsOf 172 = .ok (.iconst 0, 1) := by decide +kernel
theorem dX11_factsOf_173 : decode cX11_factsOf 173 = .ok (.istore 10, 2) := by decide +kernel
theorem dX11_factsOf_175 : decode cX11_factsOf 175 = .ok (.iload 10, 2) := by decide +kernel
theorem dX11_factsOf_177 : decode cX11_factsOf 177 = .ok (.iconst 3, 1) := by decide +kernel
theorem dX11_factsOf_178 : decode cX11_factsOf 178 = .ok (.if_icmp .ge 55, 3) := by decide +kernel
theorem dX11_factsOf_181 : decode cX11_factsOf 181 = .ok (.aload_n 0, 1) := by decide +kernel
theorem dX11_factsOf_182 : decode cX11_factsOf 182 = .ok (.getfield 133, 3) := by decide +kernel
theorem dX11_factsOf_185 : decode cX11_factsOf 185 = .ok (.iconst 1, 1) := by decide +kernel
theorem dX11_factsOf_186 : decode cX11_factsOf 186 = .ok (.dup2, 1) := by decide +kernel
theorem dX11_factsOf_187 : decode cX11_factsOf 187 = .ok (.iaload, 1) := by decide +kernel
theorem dX11_factsOf_188 : decode cX11_factsOf 188 = .ok (.aload_n 0, 1) := by decide +kernel
theorem dX11_factsOf_189 : decode cX11_factsOf 189 = .ok (.getfield 76, 3) := by decide +kernel
theorem dX11_factsOf_192 : decode cX11_factsOf 192 = .ok (.iconst 3, 1) := by decide +kernel
theorem dX11_factsOf_193 : decode cX11_factsOf 193 = .ok (.iload 9, 2) := by decide +kernel
theorem dX11_factsOf_195 : decode cX11_factsOf 195 = .ok (.imul, 1) := by decide +kernel
theorem dX11_factsOf_196 : decode cX11_factsOf 196 = .ok (.iload 10, 2) := by decide +kernel
theorem dX11_factsOf_198 : decode cX11_factsOf 198 = .ok (.iadd, 1) := by decide +kernel
theorem dX11_factsOf_199 : decode cX11_factsOf 199 = .ok (.iaload, 1) := by decide +kernel
theorem dX11_factsOf_200 : decode cX11_factsOf 200 = .ok (.ifCond .le 24, 3) := by decide +kernel
theorem dX11_factsOf_203 : decode cX11_factsOf 203 = .ok (.aload_n 0, 1) := by decide +kernel
theorem dX11_factsOf_204 : decode cX11_factsOf 204 = .ok (.getfield 76, 3) := by decide +kernel
theorem dX11_factsOf_207 : decode cX11_factsOf 207 = .ok (.iconst 3, 1) := by decide +kernel
theorem dX11_factsOf_208 : decode cX11_factsOf 208 = .ok (.iload 9, 2) := by decide +kernel
theorem dX11_factsOf_210 : decode cX11_factsOf 210 = .ok (.imul, 1) := by decide +kernel
theorem dX11_factsOf_211 : decode cX11_factsOf 211 = .ok (.iload 10, 2) := by decide +kernel
theorem dX11_factsOf_213 : decode cX11_factsOf 213 = .ok (.iadd, 1) := by decide +kernel
theorem dX11_factsOf_214 : decode cX11_factsOf 214 = .ok (.iaload, 1) := by decide +kernel
theorem dX11_factsOf_215 : decode cX11_factsOf 215 = .ok (.iload 5, 2) := by decide +kernel
theorem dX11_factsOf_217 : decode cX11_factsOf 217 = .ok (.if_icmp .gt 7, 3) := by decide +kernel
theorem dX11_factsOf_220 : decode cX11_factsOf 220 = .ok (.iconst 1, 1) := by decide +kernel
theorem dX11_factsOf_221 : decode cX11_factsOf 221 = .ok (.goto 4, 3) := by decide +kernel
theorem dX11_factsOf_224 : decode cX11_factsOf 224 = .ok (.iconst 0, 1) := by decide +kernel
theorem dX11_factsOf_225 : decode cX11_factsOf 225 = .ok (.iadd, 1) := by decide +kernel
theorem dX11_factsOf_226 : decode cX11_factsOf 226 = .ok (.iastore, 1) := by decide +kernel
theorem dX11_factsOf_227 : decode cX11_factsOf 227 = .ok (.iinc 10 1, 3) := by decide +kernel
theorem dX11_factsOf_230 : decode cX11_factsOf 230 = .ok (.goto (-55), 3) := by decide +kernel
theorem dX11_factsOf_233 : decode cX11_factsOf 233 = .ok (.aload_n 0, 1) := by decide +kernel
theorem dX11_factsOf_234 : decode cX11_factsOf 234 = .ok (.getfield 133, 3) := by decide +kernel
theorem dX11_factsOf_237 : decode cX11_factsOf 237 = .ok (.iconst 2, 1) := by decide +kernel
theorem dX11_factsOf_238 : decode cX11_factsOf 238 = .ok (.iload 5, 2) := by decide +kernel
theorem dX11_factsOf_240 : decode cX11_factsOf 240 = .ok (.iastore, 1) := by decide +kernel
theorem dX11_factsOf_241 : decode cX11_factsOf 241 = .ok (.aload_n 0, 1) := by decide +kernel
theorem dX11_factsOf_242 : decode cX11_factsOf 242 = .ok (.getfield 133, 3) := by decide +kernel
theorem dX11_factsOf_245 : decode cX11_factsOf 245 = .ok (.iconst 3, 1) := by decide +kernel
theorem dX11_factsOf_246 : decode cX11_factsOf 246 = .ok (.iload 8, 2) := by decide +kernel
theorem dX11_factsOf_248 : decode cX11_factsOf 248 = .ok (.iastore, 1) := by decide +kernel
theorem dX11_factsOf_249 : decode cX11_factsOf 249 = .ok (.aload_n 0, 1) := by decide +kernel
theorem dX11_factsOf_250 : decode cX11_factsOf 250 = .ok (.getfield 133, 3) := by decide +kernel
theorem dX11_factsOf_253 : decode cX11_factsOf 253 = .ok (.iconst 4, 1) := by decide +kernel
theorem dX11_factsOf_254 : decode cX11_factsOf 254 = .ok (.aload_n 0, 1) := by decide +kernel
theorem dX11_factsOf_255 : decode cX11_factsOf 255 = .ok (.getfield 112, 3) := by decide +kernel
theorem dX11_factsOf_258 : decode cX11_factsOf 258 = .ok (.iload 6, 2) := by decide +kernel
theorem dX11_factsOf_260 : decode cX11_factsOf 260 = .ok (.iaload, 1) := by decide +kernel
theorem dX11_factsOf_261 : decode cX11_factsOf 261 = .ok (.ifCond .ne 7, 3) := by decide +kernel
theorem dX11_factsOf_264 : decode cX11_factsOf 264 = .ok (.iconst 0, 1) := by decide +kernel
theorem dX11_factsOf_265 : decode cX11_factsOf 265 = .ok (.goto 18, 3) := by decide +kernel
theorem dX11_factsOf_268 : decode cX11_factsOf 268 = .ok (.aload_n 0, 1) := by decide +kernel
theorem dX11_factsOf_269 : decode cX11_factsOf 269 = .ok (.getfield 106, 3) := by decide +kernel
theorem dX11_factsOf_272 : decode cX11_factsOf 272 = .ok (.iload 6, 2) := by decide +kernel
theorem dX11_factsOf_274 : decode cX11_factsOf 274 = .ok (.iaload, 1) := by decide +kernel
theorem dX11_factsOf_275 : decode cX11_factsOf 275 = .ok (.aload_n 0, 1) := by decide +kernel
theorem dX11_factsOf_276 : decode cX11_factsOf 276 = .ok (.getfield 103, 3) := by decide +kernel
theorem dX11_factsOf_279 : decode cX11_factsOf 279 = .ok (.iload 6, 2) := by decide +kernel
theorem dX11_factsOf_281 : decode cX11_factsOf 281 = .ok (.iaload, 1) := by decide +kernel
theorem dX11_factsOf_282 : decode cX11_factsOf 282 = .ok (.isub, 1) := by decide +kernel
theorem dX11_factsOf_283 : decode cX11_factsOf 283 = .ok (.iastore, 1) := by decide +kernel
theorem dX11_factsOf_284 : decode cX11_factsOf 284 = .ok (.aload_n 0, 1) := by decide +kernel
theorem dX11_factsOf_285 : decode cX11_factsOf 285 = .ok (.getfield 133, 3) := by decide +kernel
theorem dX11_factsOf_288 : decode cX11_factsOf 288 = .ok (.iconst 5, 1) := by decide +kernel
theorem dX11_factsOf_289 : decode cX11_factsOf 289 = .ok (.aload_n 0, 1) := by decide +kernel
theorem dX11_factsOf_290 : decode cX11_factsOf 290 = .ok (.getfield 133, 3) := by decide +kernel
theorem dX11_factsOf_293 : decode cX11_factsOf 293 = .ok (.iconst 0, 1) := by decide +kernel
theorem dX11_factsOf_294 : decode cX11_factsOf 294 = .ok (.iaload, 1) := by decide +kernel
theorem dX11_factsOf_295 : decode cX11_factsOf 295 = .ok (.iconst 1, 1) := by decide +kernel
theorem dX11_factsOf_296 : decode cX11_factsOf 296 = .ok (.if_icmp .ne 13, 3) := by decide +kernel
theorem dX11_factsOf_299 : decode cX11_factsOf 299 = .ok (.iload 8, 2) := by decide +kernel
theorem dX11_factsOf_301 : decode cX11_factsOf 301 = .ok (.iconst 1, 1) := by decide +kernel
theorem dX11_factsOf_302 : decode cX11_factsOf 302 = .ok (.if_icmp .ne 7, 3) := by decide +kernel
theorem dX11_factsOf_305 : decode cX11_factsOf 305 = .ok (.iconst 1, 1) := by decide +kernel
theorem dX11_factsOf_306 : decode cX11_factsOf 306 = .ok (.goto 4, 3) := by decide +kernel
theorem dX11_factsOf_309 : decode cX11_factsOf 309 = .ok (.iconst 0, 1) := by decide +kernel
theorem dX11_factsOf_310 : decode cX11_factsOf 310 = .ok (.iastore, 1) := by decide +kernel
theorem dX11_factsOf_311 : decode cX11_factsOf 311 = .ok (.return_, 1) := by decide +kernel
theorem dX11_cut_0 : decode cX11_cut 0 = .ok (.ldc2_w 370, 3) := by decide +kernel
theorem dX11_cut_3 : decode cX11_cut 3 = .ok (.ldc2_w 372, 3) := by decide +kernel
theorem dX11_cut_6 : decode cX11_cut 6 = .ok (.lload_n 0, 1) := by decide +kernel
theorem dX11_cut_7 : decode cX11_cut 7 = .ok (.invokestatic 374, 3) := by decide +kernel
theorem dX11_cut_10 : decode cX11_cut 10 = .ok (.invokestatic 377, 3) := by decide +kernel
theorem dX11_cut_13 : decode cX11_cut 13 = .ok (.lreturn, 1) := by decide +kernel
theorem dX11_pointsOf_0 : decode cX11_pointsOf 0 = .ok (.aload_n 0, 1) := by decide +kernel
theorem dX11_pointsOf_1 : decode cX11_pointsOf 1 = .ok (.iload_n 1, 1) := by decide +kernel
theorem dX11_pointsOf_2 : decode cX11_pointsOf 2 = .ok (.iload_n 2, 1) := by decide +kernel
theorem dX11_pointsOf_3 : decode cX11_pointsOf 3 = .ok (.iload_n 3, 1) := by decide +kernel
theorem dX11_pointsOf_4 : decode cX11_pointsOf 4 = .ok (.iload 4, 2) := by decide +kernel
theorem dX11_pointsOf_6 : decode cX11_pointsOf 6 = .ok (.invokevirtual 379, 3) := by decide +kernel
theorem dX11_pointsOf_9 : decode cX11_pointsOf 9 = .ok (.iconst 0, 1) := by decide +kernel
theorem dX11_pointsOf_10 : decode cX11_pointsOf 10 = .ok (.istore 5, 2) := by decide +kernel
theorem dX11_pointsOf_12 : decode cX11_pointsOf 12 = .ok (.iconst 0, 1) := by decide +kernel
theorem dX11_pointsOf_13 : decode cX11_pointsOf 13 = .ok (.istore 6, 2) := by decide +kernel
theorem dX11_pointsOf_15 : decode cX11_pointsOf 15 = .ok (.iload 6, 2) := by decide +kernel
theorem dX11_pointsOf_17 : decode cX11_pointsOf 17 = .ok (.aload_n 0, 1) := by decide +kernel
theorem dX11_pointsOf_18 : decode cX11_pointsOf 18 = .ok (.getfield 304, 3) := by decide +kernel
theorem dX11_pointsOf_21 : decode cX11_pointsOf 21 = .ok (.if_icmp .ge 200, 3) := by decide +kernel
theorem dX11_pointsOf_24 : decode cX11_pointsOf 24 = .ok (.aload_n 0, 1) := by decide +kernel
theorem dX11_pointsOf_25 : decode cX11_pointsOf 25 = .ok (.getfield 45, 3) := by decide +kernel
theorem dX11_pointsOf_28 : decode cX11_pointsOf 28 = .ok (.iload 6, 2) := by decide +kernel
theorem dX11_pointsOf_30 : decode cX11_pointsOf 30 = .ok (.iaload, 1) := by decide +kernel
theorem dX11_pointsOf_31 : decode cX11_pointsOf 31 = .ok (.bipush 7, 2) := by decide +kernel
theorem dX11_pointsOf_33 : decode cX11_pointsOf 33 = .ok (.if_icmp .ge 52, 3) := by decide +kernel
theorem dX11_pointsOf_36 : decode cX11_pointsOf 36 = .ok (.aload_n 0, 1) := by decide +kernel
theorem dX11_pointsOf_37 : decode cX11_pointsOf 37 = .ok (.getfield 136, 3) := by decide +kernel
theorem dX11_pointsOf_40 : decode cX11_pointsOf 40 = .ok (.iload 5, 2) := by decide +kernel
theorem dX11_pointsOf_42 : decode cX11_pointsOf 42 = .ok (.aload_n 0, 1) := by decide +kernel
theorem dX11_pointsOf_43 : decode cX11_pointsOf 43 = .ok (.getfield 45, 3) := by decide +kernel
theorem dX11_pointsOf_46 : decode cX11_pointsOf 46 = .ok (.iload 6, 2) := by decide +kernel
theorem dX11_pointsOf_48 : decode cX11_pointsOf 48 = .ok (.iaload, 1) := by decide +kernel
theorem dX11_pointsOf_49 : decode cX11_pointsOf 49 = .ok (.ifCond .ne 14, 3) := by decide +kernel
theorem dX11_pointsOf_52 : decode cX11_pointsOf 52 = .ok (.aload_n 0, 1) := by decide +kernel
theorem dX11_pointsOf_53 : decode cX11_pointsOf 53 = .ok (.getfield 48, 3) := by decide +kernel
theorem dX11_pointsOf_56 : decode cX11_pointsOf 56 = .ok (.iload 6, 2) := by decide +kernel
theorem dX11_pointsOf_58 : decode cX11_pointsOf 58 = .ok (.iaload, 1) := by decide +kernel
theorem dX11_pointsOf_59 : decode cX11_pointsOf 59 = .ok (.i2l, 1) := by decide +kernel
theorem dX11_pointsOf_60 : decode cX11_pointsOf 60 = .ok (.goto 18, 3) := by decide +kernel
theorem dX11_pointsOf_63 : decode cX11_pointsOf 63 = .ok (.aload_n 0, 1) := by decide +kernel
theorem dX11_pointsOf_64 : decode cX11_pointsOf 64 = .ok (.getfield 133, 3) := by decide +kernel
theorem dX11_pointsOf_67 : decode cX11_pointsOf 67 = .ok (.aload_n 0, 1) := by decide +kernel
theorem dX11_pointsOf_68 : decode cX11_pointsOf 68 = .ok (.getfield 45, 3) := by decide +kernel
theorem dX11_pointsOf_71 : decode cX11_pointsOf 71 = .ok (.iload 6, 2) := by decide +kernel
theorem dX11_pointsOf_73 : decode cX11_pointsOf 73 = .ok (.iaload, 1) := by decide +kernel
theorem dX11_pointsOf_74 : decode cX11_pointsOf 74 = .ok (.iconst 1, 1) := by decide +kernel
theorem dX11_pointsOf_75 : decode cX11_pointsOf 75 = .ok (.isub, 1) := by decide +kernel
theorem dX11_pointsOf_76 : decode cX11_pointsOf 76 = .ok (.iaload, 1) := by decide +kernel
theorem dX11_pointsOf_77 : decode cX11_pointsOf 77 = .ok (.i2l, 1) := by decide +kernel
theorem dX11_pointsOf_78 : decode cX11_pointsOf 78 = .ok (.lastore, 1) := by decide +kernel
theorem dX11_pointsOf_79 : decode cX11_pointsOf 79 = .ok (.iinc 5 1, 3) := by decide +kernel
theorem dX11_pointsOf_82 : decode cX11_pointsOf 82 = .ok (.goto 133, 3) := by decide +kernel
theorem dX11_pointsOf_85 : decode cX11_pointsOf 85 = .ok (.aload_n 0, 1) := by decide +kernel
theorem dX11_pointsOf_86 : decode cX11_pointsOf 86 = .ok (.getfield 45, 3) := by decide +kernel
theorem dX11_pointsOf_89 : decode cX11_pointsOf 89 = .ok (.iload 6, 2) := by decide +kernel
theorem dX11_pointsOf_91 : decode cX11_pointsOf 91 = .ok (.iaload, 1) := by decide +kernel
theorem dX11_pointsOf_92 : decode cX11_pointsOf 92 = .ok (.bipush 10, 2) := by decide +kernel
theorem dX11_pointsOf_94 : decode cX11_pointsOf 94 = .ok (.if_icmp .ne 25, 3) := by decide +kernel
theorem dX11_pointsOf_97 : decode cX11_pointsOf 97 = .ok (.aload_n 0, 1) := by decide +kernel
theorem dX11_pointsOf_98 : decode cX11_pointsOf 98 = .ok (.getfield 136, 3) := by decide +kernel
theorem dX11_pointsOf_101 : decode cX11_pointsOf 101 = .ok (.iload 5, 2) := by decide +kernel
theorem dX11_pointsOf_103 : decode cX11_pointsOf 103 = .ok (.iconst 1, 1) := by decide +kernel
theorem dX11_pointsOf_104 : decode cX11_pointsOf 104 = .ok (.isub, 1) := by decide +kernel
theorem dX11_pointsOf_105 : decode cX11_pointsOf 105 = .ok (.aload_n 0, 1) := by decide +kernel
theorem dX11_pointsOf_106 : decode cX11_pointsOf 106 = .ok (.getfield 136, 3) := by decide +kernel
theorem dX11_pointsOf_109 : decode cX11_pointsOf 109 = .ok (.iload 5, 2) := by decide +kernel
theorem dX11_pointsOf_111 : decode cX11_pointsOf 111 = .ok (.iconst 1, 1) := by decide +kernel
theorem dX11_pointsOf_112 : decode cX11_pointsOf 112 = .ok (.isub, 1) := by decide +kernel
theorem dX11_pointsOf_113 : decode cX11_pointsOf 113 = .ok (.laload, 1) := by decide +kernel
theorem dX11_pointsOf_114 : decode cX11_pointsOf 114 = .ok (.lneg, 1) := by decide +kernel
theorem dX11_pointsOf_115 : decode cX11_pointsOf 115 = .ok (.lastore, 1) := by decide +kernel
theorem dX11_pointsOf_116 : decode cX11_pointsOf 116 = .ok (.goto 99, 3) := by decide +kernel
theorem dX11_pointsOf_119 : decode cX11_pointsOf 119 = .ok (.iinc 5 (-1), 3) := by decide +kernel
theorem dX11_pointsOf_122 : decode cX11_pointsOf 122 = .ok (.aload_n 0, 1) := by decide +kernel
theorem dX11_pointsOf_123 : decode cX11_pointsOf 123 = .ok (.getfield 136, 3) := by decide +kernel
theorem dX11_pointsOf_126 : decode cX11_pointsOf 126 = .ok (.iload 5, 2) := by decide +kernel
theorem dX11_pointsOf_128 : decode cX11_pointsOf 128 = .ok (.iconst 1, 1) := by decide +kernel
theorem dX11_pointsOf_129 : decode cX11_pointsOf 129 = .ok (.isub, 1) := by decide +kernel
theorem dX11_pointsOf_130 : decode cX11_pointsOf 130 = .ok (.aload_n 0, 1) := by decide +kernel
theorem dX11_pointsOf_131 : decode cX11_pointsOf 131 = .ok (.getfield 45, 3) := by decide +kernel
theorem dX11_pointsOf_134 : decode cX11_pointsOf 134 = .ok (.iload 6, 2) := by decide +kernel
theorem dX11_pointsOf_136 : decode cX11_pointsOf 136 = .ok (.iaload, 1) := by decide +kernel
theorem dX11_pointsOf_137 : decode cX11_pointsOf 137 = .ok (.bipush 7, 2) := by decide +kernel
theorem dX11_pointsOf_139 : decode cX11_pointsOf 139 = .ok (.if_icmp .ne 23, 3) := by decide +kernel
theorem dX11_pointsOf_142 : decode cX11_pointsOf 142 = .ok (.aload_n 0, 1) := by decide +kernel
theorem dX11_pointsOf_143 : decode cX11_pointsOf 143 = .ok (.getfield 136, 3) := by decide +kernel
theorem dX11_pointsOf_146 : decode cX11_pointsOf 146 = .ok (.iload 5, 2) := by decide +kernel
theorem dX11_pointsOf_148 : decode cX11_pointsOf 148 = .ok (.iconst 1, 1) := by decide +kernel
theorem dX11_pointsOf_149 : decode cX11_pointsOf 149 = .ok (.isub, 1) := by decide +kernel
theorem dX11_pointsOf_150 : decode cX11_pointsOf 150 = .ok (.laload, 1) := by decide +kernel
theorem dX11_pointsOf_151 : decode cX11_pointsOf 151 = .ok (.aload_n 0, 1) := by decide +kernel
theorem dX11_pointsOf_152 : decode cX11_pointsOf 152 = .ok (.getfield 136, 3) := by decide +kernel
theorem dX11_pointsOf_155 : decode cX11_pointsOf 155 = .ok (.iload 5, 2) := by decide +kernel
theorem dX11_pointsOf_157 : decode cX11_pointsOf 157 = .ok (.laload, 1) := by decide +kernel
theorem dX11_pointsOf_158 : decode cX11_pointsOf 158 = .ok (.ladd, 1) := by decide +kernel
theorem dX11_pointsOf_159 : decode cX11_pointsOf 159 = .ok (.goto 52, 3) := by decide +kernel
theorem dX11_pointsOf_162 : decode cX11_pointsOf 162 = .ok (.aload_n 0, 1) := by decide +kernel
theorem dX11_pointsOf_163 : decode cX11_pointsOf 163 = .ok (.getfield 45, 3) := by decide +kernel
theorem dX11_pointsOf_166 : decode cX11_pointsOf 166 = .ok (.iload 6, 2) := by decide +kernel
theorem dX11_pointsOf_168 : decode cX11_pointsOf 168 = .ok (.iaload, 1) := by decide +kernel
theorem dX11_pointsOf_169 : decode cX11_pointsOf 169 = .ok (.bipush 8, 2) := by decide +kernel
theorem dX11_pointsOf_171 : decode cX11_pointsOf 171 = .ok (.if_icmp .ne 23, 3) := by decide +kernel
theorem dX11_pointsOf_174 : decode cX11_pointsOf 174 = .ok (.aload_n 0, 1) := by decide +kernel
theorem dX11_pointsOf_175 : decode cX11_pointsOf 175 = .ok (.getfield 136, 3) := by decide +kernel
theorem dX11_pointsOf_178 : decode cX11_pointsOf 178 = .ok (.iload 5, 2) := by decide +kernel
theorem dX11_pointsOf_180 : decode cX11_pointsOf 180 = .ok (.iconst 1, 1) := by decide +kernel
theorem dX11_pointsOf_181 : decode cX11_pointsOf 181 = .ok (.isub, 1) := by decide +kernel
theorem dX11_pointsOf_182 : decode cX11_pointsOf 182 = .ok (.laload, 1) := by decide +kernel
theorem dX11_pointsOf_183 : decode cX11_pointsOf 183 = .ok (.aload_n 0, 1) := by decide +kernel
theorem dX11_pointsOf_184 : decode cX11_pointsOf 184 = .ok (.getfield 136, 3) := by decide +kernel
theorem dX11_pointsOf_187 : decode cX11_pointsOf 187 = .ok (.iload 5, 2) := by decide +kernel
theorem dX11_pointsOf_189 : decode cX11_pointsOf 189 = .ok (.laload, 1) := by decide +kernel
theorem dX11_pointsOf_190 : decode cX11_pointsOf 190 = .ok (.lsub, 1) := by decide +kernel
theorem dX11_pointsOf_191 : decode cX11_pointsOf 191 = .ok (.goto 20, 3) := by decide +kernel
theorem dX11_pointsOf_194 : decode cX11_pointsOf 194 = .ok (.aload_n 0, 1) := by decide +kernel
theorem dX11_pointsOf_195 : decode cX11_pointsOf 195 = .ok (.getfield 136, 3) := by decide +kernel
theorem dX11_pointsOf_198 : decode cX11_pointsOf 198 = .ok (.iload 5, 2) := by decide +kernel
theorem dX11_pointsOf_200 : decode cX11_pointsOf 200 = .ok (.iconst 1, 1) := by decide +kernel
theorem dX11_pointsOf_201 : decode cX11_pointsOf 201 = .ok (.isub, 1) := by decide +kernel
theorem dX11_pointsOf_202 : decode cX11_pointsOf 202 = .ok (.laload, 1) := by decide +kernel
theorem dX11_pointsOf_203 : decode cX11_pointsOf 203 = .ok (.aload_n 0, 1) := by decide +kernel
theorem dX11_pointsOf_204 : decode cX11_pointsOf 204 = .ok (.getfield 136, 3) := by decide +kernel
theorem dX11_pointsOf_207 : decode cX11_pointsOf 207 = .ok (.iload 5, 2) := by decide +kernel
theorem dX11_pointsOf_209 : decode cX11_pointsOf 209 = .ok (.laload, 1) := by decide +kernel
theorem dX11_pointsOf_210 : decode cX11_pointsOf 210 = .ok (.lmul, 1) := by decide +kernel
theorem dX11_pointsOf_211 : decode cX11_pointsOf 211 = .ok (.invokestatic 383, 3) := by decide +kernel
theorem dX11_pointsOf_214 : decode cX11_pointsOf 214 = .ok (.lastore, 1) := by decide +kernel
theorem dX11_pointsOf_215 : decode cX11_pointsOf 215 = .ok (.iinc 6 1, 3) := by decide +kernel
theorem dX11_pointsOf_218 : decode cX11_pointsOf 218 = .ok (.goto (-203), 3) := by decide +kernel
theorem dX11_pointsOf_221 : decode cX11_pointsOf 221 = .ok (.aload_n 0, 1) := by decide +kernel
theorem dX11_pointsOf_222 : decode cX11_pointsOf 222 = .ok (.getfield 136, 3) := by decide +kernel
theorem dX11_pointsOf_225 : decode cX11_pointsOf 225 = .ok (.iconst 0, 1) := by decide +kernel
theorem dX11_pointsOf_226 : decode cX11_pointsOf 226 = .ok (.laload, 1) := by decide +kernel
theorem dX11_pointsOf_227 : decode cX11_pointsOf 227 = .ok (.l2i, 1) := by decide +kernel
theorem dX11_pointsOf_228 : decode cX11_pointsOf 228 = .ok (.ireturn, 1) := by decide +kernel
theorem dX11_of_0 : decode cX11_of 0 = .ok (.aload_n 0, 1) := by decide +kernel
theorem dX11_of_1 : decode cX11_of 1 = .ok (.iconst 0, 1) := by decide +kernel
theorem dX11_of_2 : decode cX11_of 2 = .ok (.putfield 146, 3) := by decide +kernel
theorem dX11_of_5 : decode cX11_of 5 = .ok (.aload_n 0, 1) := by decide +kernel
theorem dX11_of_6 : decode cX11_of 6 = .ok (.iconst 0, 1) := by decide +kernel
theorem dX11_of_7 : decode cX11_of 7 = .ok (.putfield 149, 3) := by decide +kernel
theorem dX11_of_10 : decode cX11_of 10 = .ok (.aload_n 0, 1) := by decide +kernel
theorem dX11_of_11 : decode cX11_of 11 = .ok (.iload_n 1, 1) := by decide +kernel
theorem dX11_of_12 : decode cX11_of 12 = .ok (.iload_n 2, 1) := by decide +kernel
theorem dX11_of_13 : decode cX11_of 13 = .ok (.invokevirtual 328, 3) := by decide +kernel
theorem dX11_of_16 : decode cX11_of 16 = .ok (.ifCond .eq 11, 3) := by decide +kernel
theorem dX11_of_19 : decode cX11_of 19 = .ok (.aload_n 0, 1) := by decide +kernel
theorem dX11_of_20 : decode cX11_of 20 = .ok (.iload_n 3, 1) := by decide +kernel
theorem dX11_of_21 : decode cX11_of 21 = .ok (.invokevirtual 349, 3) := by decide +kernel
theorem dX11_of_24 : decode cX11_of 24 = .ok (.ifCond .ne 9, 3) := by decide +kernel
theorem dX11_of_27 : decode cX11_of 27 = .ok (.aload_n 0, 1) := by decide +kernel
theorem dX11_of_28 : decode cX11_of 28 = .ok (.iconst 1, 1) := by decide +kernel
theorem dX11_of_29 : decode cX11_of 29 = .ok (.invokevirtual 295, 3) := by decide +kernel
theorem dX11_of_32 : decode cX11_of 32 = .ok (.ireturn, 1) := by decide +kernel
theorem dX11_of_33 : decode cX11_of 33 = .ok (.iload 4, 2) := by decide +kernel
theorem dX11_of_35 : decode cX11_of 35 = .ok (.invokestatic 364, 3) := by decide +kernel
theorem dX11_of_38 : decode cX11_of 38 = .ok (.ifCond .eq 15, 3) := by decide +kernel
theorem dX11_of_41 : decode cX11_of 41 = .ok (.iload 5, 2) := by decide +kernel
theorem dX11_of_43 : decode cX11_of 43 = .ok (.ifCond .lt 10, 3) := by decide +kernel
theorem dX11_of_46 : decode cX11_of 46 = .ok (.iload 5, 2) := by decide +kernel
theorem dX11_of_48 : decode cX11_of 48 = .ok (.bipush 6, 2) := by decide +kernel
theorem dX11_of_50 : decode cX11_of 50 = .ok (.if_icmp .le 9, 3) := by decide +kernel
theorem dX11_of_53 : decode cX11_of 53 = .ok (.aload_n 0, 1) := by decide +kernel
theorem dX11_of_54 : decode cX11_of 54 = .ok (.iconst 2, 1) := by decide +kernel
theorem dX11_of_55 : decode cX11_of 55 = .ok (.invokevirtual 295, 3) := by decide +kernel
theorem dX11_of_58 : decode cX11_of 58 = .ok (.ireturn, 1) := by decide +kernel
theorem dX11_of_59 : decode cX11_of 59 = .ok (.aload_n 0, 1) := by decide +kernel
theorem dX11_of_60 : decode cX11_of 60 = .ok (.iload_n 1, 1) := by decide +kernel
theorem dX11_of_61 : decode cX11_of 61 = .ok (.iload_n 2, 1) := by decide +kernel
theorem dX11_of_62 : decode cX11_of 62 = .ok (.iload_n 3, 1) := by decide +kernel
theorem dX11_of_63 : decode cX11_of 63 = .ok (.iload 4, 2) := by decide +kernel
theorem dX11_of_65 : decode cX11_of 65 = .ok (.invokevirtual 387, 3) := by decide +kernel
theorem dX11_of_68 : decode cX11_of 68 = .ok (.istore 6, 2) := by decide +kernel
theorem dX11_of_70 : decode cX11_of 70 = .ok (.iload 5, 2) := by decide +kernel
theorem dX11_of_72 : decode cX11_of 72 = .ok (.bipush 6, 2) := by decide +kernel
theorem dX11_of_74 : decode cX11_of 74 = .ok (.if_icmp .ne 8, 3) := by decide +kernel
theorem dX11_of_77 : decode cX11_of 77 = .ok (.iload 6, 2) := by decide +kernel
theorem dX11_of_79 : decode cX11_of 79 = .ok (.goto 10, 3) := by decide +kernel
theorem dX11_of_82 : decode cX11_of 82 = .ok (.aload_n 0, 1) := by decide +kernel
theorem dX11_of_83 : decode cX11_of 83 = .ok (.getfield 133, 3) := by decide +kernel
theorem dX11_of_86 : decode cX11_of 86 = .ok (.iload 5, 2) := by decide +kernel
theorem dX11_of_88 : decode cX11_of 88 = .ok (.iaload, 1) := by decide +kernel
theorem dX11_of_89 : decode cX11_of 89 = .ok (.ireturn, 1) := by decide +kernel
